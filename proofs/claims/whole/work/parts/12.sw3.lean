/-! the layer, third part: small helps -/
section SWh
variable {G : sw_E} {C : sw_C} {cc : ByteArray} {own : String} {Ts : List Cond} {k n : Nat} {ws : va_W} {lv : List (Nat × Value)} {pc : Nat} {rest : List Value}
theorem sw_eqt {v v0 : Value} (h : v0 = v) (kk : SW G C k n ws lv pc (v :: rest)) : SW G C k n ws lv pc (v0 :: rest) := by subst h; exact kk
theorem sw_tableOut (F : sw_H G C cc own Ts) {dflt lo hi : Int} {offs : Array Int} {len : Nat} {x : Int32} {tgt : Nat} (hdg : decode cc pc = .ok (.tableswitch dflt lo hi offs, len)) (h : x.toInt < lo ∨ hi < x.toInt) (ht : (pc : Int) + dflt = (tgt : Int)) (kk : SW G C k n ws lv tgt rest) : SW G C k n ws lv pc (.int x :: rest) :=
  fun H locs ls hP hD hS hl => lv_tableOut F.1 F.2.1 hdg h ht (kk H locs ls hP hD hS hl)
theorem sw_tableIn (F : sw_H G C cc own Ts) {dflt lo hi : Int} {offs : Array Int} {len : Nat} {x : Int32} {off : Int} {tgt : Nat} (hdg : decode cc pc = .ok (.tableswitch dflt lo hi offs, len)) (h1 : ¬ x.toInt < lo) (h2 : ¬ hi < x.toInt) (ho : offs[(x.toInt - lo).toNat]? = some off) (ht : (pc : Int) + off = (tgt : Int)) (kk : SW G C k n ws lv tgt rest) : SW G C k n ws lv pc (.int x :: rest) :=
  fun H locs ls hP hD hS hl => lv_tableIn F.1 F.2.1 hdg h1 h2 ho ht (kk H locs ls hP hD hS hl)
end SWh
theorem sw_nb {x : Int32} (h : x = 0 ∨ x = 1) : narrow .boolean (.int x) = .int x ∧ fits .boolean (.int x) = true := by rcases h with rfl | rfl <;> exact ⟨rfl, rfl⟩
theorem sw_dvX0 : ∀ j, j < 6 → defaultValue (tyX0 j) = vp_V [.int 0, .int 0, .int 0, .int 0, .long 0, .int 0] j := fun j hj => by rcases (show j = 0 ∨ j = 1 ∨ j = 2 ∨ j = 3 ∨ j = 4 ∨ j = 5 by omega) with rfl | rfl | rfl | rfl | rfl | rfl <;> rfl
theorem sw_dvX1 : ∀ j, j < 3 → defaultValue (tyX1 j) = vp_V [.int 0, .int 0, .int 0] j := fun j hj => by rcases (show j = 0 ∨ j = 1 ∨ j = 2 by omega) with rfl | rfl | rfl <;> rfl
theorem sw_dvX2 : ∀ j, j < 3 → defaultValue (tyX2 j) = vp_V [.long 0, .long 0, .int 0] j := fun j hj => by rcases (show j = 0 ∨ j = 1 ∨ j = 2 by omega) with rfl | rfl | rfl <;> rfl
theorem sw_dvX3 : ∀ j, j < 4 → defaultValue (tyX3 j) = vp_V [.int 0, .int 0, .null, .null] j := fun j hj => by rcases (show j = 0 ∨ j = 1 ∨ j = 2 ∨ j = 3 by omega) with rfl | rfl | rfl | rfl <;> rfl
theorem sw_dvX4 : ∀ j, j < 5 → defaultValue (tyX4 j) = vp_V [.int 0, .int 0, .null, .int 0, .int 0] j := fun j hj => by rcases (show j = 0 ∨ j = 1 ∨ j = 2 ∨ j = 3 ∨ j = 4 by omega) with rfl | rfl | rfl | rfl | rfl <;> rfl
theorem sw_dvX5 : ∀ j, j < 4 → defaultValue (tyX5 j) = vp_V [.long 0, .int 0, .null, .null] j := fun j hj => by rcases (show j = 0 ∨ j = 1 ∨ j = 2 ∨ j = 3 by omega) with rfl | rfl | rfl | rfl <;> rfl
theorem sw_dvX6 : ∀ j, j < 20 → defaultValue (tyX6 j) = vp_V [.int 0, .int 0, .null, .null, .null, .null, .int 0, .int 0, .int 0, .null, .null, .long 0, .long 0, .long 0, .null, .null, .null, .null, .null, .null] j := fun j hj => by rcases (show j = 0 ∨ j = 1 ∨ j = 2 ∨ j = 3 ∨ j = 4 ∨ j = 5 ∨ j = 6 ∨ j = 7 ∨ j = 8 ∨ j = 9 ∨ j = 10 ∨ j = 11 ∨ j = 12 ∨ j = 13 ∨ j = 14 ∨ j = 15 ∨ j = 16 ∨ j = 17 ∨ j = 18 ∨ j = 19 by omega) with rfl | rfl | rfl | rfl | rfl | rfl | rfl | rfl | rfl | rfl | rfl | rfl | rfl | rfl | rfl | rfl | rfl | rfl | rfl | rfl <;> rfl
theorem sw_dvX7 : ∀ j, j < 4 → defaultValue (tyX7 j) = vp_V [.int 0, .long 0, .long 0, .long 0] j := fun j hj => by rcases (show j = 0 ∨ j = 1 ∨ j = 2 ∨ j = 3 by omega) with rfl | rfl | rfl | rfl <;> rfl
theorem sw_dvX8 : ∀ j, j < 6 → defaultValue (tyX8 j) = vp_V [.int 0, .int 0, .int 0, .int 0, .int 0, .int 0] j := fun j hj => by rcases (show j = 0 ∨ j = 1 ∨ j = 2 ∨ j = 3 ∨ j = 4 ∨ j = 5 by omega) with rfl | rfl | rfl | rfl | rfl | rfl <;> rfl
theorem sw_dvX9 : ∀ j, j < 5 → defaultValue (tyX9 j) = vp_V [.null, .null, .null, .null, .int 0] j := fun j hj => by rcases (show j = 0 ∨ j = 1 ∨ j = 2 ∨ j = 3 ∨ j = 4 by omega) with rfl | rfl | rfl | rfl | rfl <;> rfl
theorem sw_dvX10 : ∀ j, j < 5 → defaultValue (tyX10 j) = vp_V [.null, .null, .int 0, .int 0, .long 0] j := fun j hj => by rcases (show j = 0 ∨ j = 1 ∨ j = 2 ∨ j = 3 ∨ j = 4 by omega) with rfl | rfl | rfl | rfl | rfl <;> rfl
/-- as Met.ofW, for a method of a class of the JDK -/
theorem sw_ofWF {l : Launch} {y : MethodName} {ws ws' : List Cond} {rm : Room} {Pc : Array Value → State → Prop} {Qc : Array Value → State → Outcome → State → Prop} {mc ms : Nat} {free : Addr → Prop} {cc : ByteArray} {maxL : Nat} {ret : Option FieldType}
    (hy : plainFor y = true) (hw : ws = Cond.code y cc maxL ret :: ws')
    (body : ∀ p e s m args below meth c s₁, BodyLoose p l y (headSpec ws rm) cc maxL ret e s m args below meth c s₁ → c.maxLocals = maxL → Pc args s →
      W p l e (headSpec ws rm).room s m args below meth c s.heap [] 0 0 (MQ below Qc args s mc ms free) (entryFrame m args maxL)) : Met l y ws rm Pc Qc mc ms free := by
  refine MetFree.of_bodySF (code := cc) (maxLocals := maxL) (ret := ret) hy ?_ ?_
  · intro args s m h hn
    obtain ⟨meth, c, h1, h2, h3, h4, h5, h6, -, -⟩ := Cond.code_spec hn (atoms_spec (ws := ws) h _ (by rw [hw]; exact List.mem_cons_self))
    exact ⟨meth, c, h1, h2, h3, h4, h5, h6⟩
  · intro p e s m args below meth c s₁ B hml hP _
    have hh0 : s₁.heap = s.heap := by rw [B.state]; rfl
    obtain ⟨t, a1, o, b1, b2, b3⟩ := body p e s m args below meth c s₁ B hml hP s₁ hh0 (Stand.of_body B)
    exact ⟨t, o, a1, b1, b2, ⟨b3.1, b3.2⟩⟩
theorem sw_startJ {l : Launch} {G : sw_E} {y : MethodName} {wds ws' : List Cond} {rm : Room} {av : List Value} {ws : va_W} {Qf : sw_Qt} {mc ms : Nat} {cc : ByteArray} {maxL : Nat} {ret : Option FieldType} {lv : List (Nat × Value)} {own nm : String} (hy : plainFor y = true) (hw : wds = Cond.code y cc maxL ret :: ws') (ho : y.cls = own) (hnm : y.name = nm) (hav : lv_args 0 av = lv) (hn : (lg_sl av).length ≤ maxL)
    (body : ∀ C : sw_C, sw_H G C cc own wds → sw_T C l maxL rm ret nm Qf mc ms → SW G C 0 0 ws lv 0 []) : sw_M l G y wds rm av ws Qf mc ms := by
  intro sz
  refine sw_ofWF (cc := cc) (maxL := maxL) (ret := ret) hy hw ?_
  intro p e s m args below meth c s₁ B hml hv
  obtain ⟨rfl, hsz, hP, hK, hD0, hF, hN⟩ := hv
  subst hsz
  have hD := hD0.self (sz := s.heap.size)
  have hl := lv_entry av (n := maxL) hn
  rw [hav] at hl
  rw [lg_entry_eq]
  exact body (p, l, e, rm, s, m, av.toArray, below, meth, c, va_A ws s.heap.size, maxL, MQ below (Qf (va_A ws s.heap.size)) av.toArray s mc ms (va_A ws s.heap.size))
    ⟨B.exec, B.bytes, by rw [← ho]; exact findClass_of_methodNamed B.named, atoms_spec (ws := wds) B.pre, hml, B.notSynchronized, hK, fun q h => Or.inr h, hF, hN⟩
    ⟨rfl, rfl, rfl, B.returns, by rw [← hnm]; exact (name_of_methodNamed B.named B.method).1, rfl⟩
    s.heap [] _ hP hD va_S.rf hl
section SWh2
variable {G : sw_E} {C : sw_C} {cc : ByteArray} {own : String} {Ts : List Cond} {k n : Nat} {ws : va_W} {lv : List (Nat × Value)} {pc : Nat} {rest : List Value}
theorem sw_tblen (F : sw_H G C cc own Ts) {t N : Nat} {f : Nat → Value} (hT : va_T .int t N f (sw_A C) (sw_s C) (sw_s C).heap) {v : Int32} (hv : Int32.ofNat N = v) (hdg : decode cc pc = .ok (.arraylength, 1)) (kk : SW G C k n ws lv (pc + 1) (.int v :: rest)) : SW G C k n ws lv pc (.ref t :: rest) :=
  fun H locs ls hP hD hS hl => va_tlen F.1 F.2.1 hT hS hv hdg (kk H locs ls hP hD hS hl)
theorem sw_nami {x e : Int32} (h : x = e) (kk : ∀ y : Int32, y = e → SW G C k n ws lv pc (.int y :: rest)) : SW G C k n ws lv pc (.int x :: rest) := kk x h
theorem sw_naml {x e : Int64} (h : x = e) (kk : ∀ y : Int64, y = e → SW G C k n ws lv pc (.long y :: rest)) : SW G C k n ws lv pc (.long x :: rest) := kk x h
end SWh2
theorem sw_in {i : Int32} {N : Nat} (h : decide (¬ (i < 0 ∨ N ≤ i.toNatClampNeg)) = true) : vp_in i N := by unfold vp_in; exact of_decide_eq_true h
theorem sw_vpin {x : Int32} {N : Nat} (hN : N < 2 ^ 31) (h1 : ¬ x < 0) (h2 : ¬ Int32.ofNat N ≤ x) : vp_in x N := by
  rcases pk_ix x hN with h | h | ⟨j, hj, rfl⟩
  · exact absurd h h1
  · exact absurd h h2
  · exact vp_in_nI hj hN
