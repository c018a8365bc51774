/-! ===== throwing: contracts of methods that throw a class without a text, no cell changed ===== -/
def sx_IO : String := "java/lang/IndexOutOfBoundsException"
def sx_IA : String := "java/lang/IllegalArgumentException"
def sx_IS : String := "java/lang/IllegalStateException"
def sx_up : List String := ["java/lang/RuntimeException", "java/lang/Exception"]
def sx_dc : Cond → Bool
  | .declares _ => true
  | .castable _ _ => true
  | _ => false
theorem sx_ot {w : Cond} (hd : sx_dc w = true) : w.onTables = true := by
  cases w with
  | declares x => rfl
  | castable a b => rfl
  | _ => exact absurd hd (by simp [sx_dc])
theorem sx_w {args a' : Array Value} {s U : State} {w : Cond} (hW : s.WarmedH U.vm) (hd : sx_dc w = true) (h : w.before args s = true) : w.before a' U = true := by
  have key : w.before args (s.setVm U.vm) = true := by
    cases w with
    | declares x => rw [Cond.declares_setVm hW.alike]; exact h
    | castable a b => rw [Cond.castable_setVm hW.alike]; exact h
    | _ => exact absurd hd (by simp [sx_dc])
  exact va_tabs (u := s.setVm U.vm) (sx_ot hd) rfl key
def sx_B : List Cond := ((vx_at0 RX9 243 sx_IO sx_up).filter (fun w => !goodWord w)) ++ (((vx_at0 RX9 246 sx_IA sx_up).filter (fun w => !goodWord w)) ++ ((vx_at0 RX9 249 sx_IS sx_up).filter (fun w => !goodWord w)))
theorem sx_B_dc : ∀ w ∈ sx_B, sx_dc w = true := List.all_eq_true.mp (by decide +kernel : sx_B.all sx_dc = true)
/-- the words of a throw that no method's list can carry -/
def sx_N (U : State) : Prop := ∀ w ∈ sx_B, w.before #[] U = true
theorem sx_N.warm {s U : State} (hW : s.WarmedH U.vm) (h : sx_N s) : sx_N U := fun w hw => sx_w hW (sx_B_dc w hw) (h w hw)
theorem sx_N.call {U : State} {g : JFrame} {mk : MethodId} {a : Array Value} (h : sx_N U) : sx_N (U.calling g mk a) := fun w hw => va_tabs (u := U) (sx_ot (sx_B_dc w hw)) rfl (h w hw)
def sx_Pre (G : sw_E) (av : List Value) (ws : va_W) (sz : Nat) : Array Value → State → Prop := fun a U => sw_Pre G av ws sz a U ∧ sx_N U
theorem sx_blind {G : sw_E} {av : List Value} {ws : va_W} {sz : Nat} : FrameBlind (sx_Pre G av ws sz) := fun a U g mk q => ⟨sw_blind a U g mk q.1, q.2.call⟩
/-- what is so where E has been thrown: the cells as they were -/
def sx_X (G : sw_E) (E : String) (ws : va_W) (A : Nat → Prop) : String → State → State → Prop := vx_X (S := Unit) (fun _ => True) (fun E' u t => E' = E ∧ sw_B G A (fun _ : Unit => ws) u t) A
def sx_M (l : Launch) (G : sw_E) (y : MethodName) (wds : List Cond) (rm : Room) (av : List Value) (ws : va_W) (Qf : sw_Qt) (E : String) : Prop := ∀ sz : Nat, vx_Met l y wds rm (sx_Pre G av ws sz) (Qf (va_A ws sz)) (sx_X G E ws (va_A ws sz)) 1 6 (va_A ws sz)
def sx_T (C : sw_C) (l : Launch) (maxL : Nat) (rm : Room) (G : sw_E) (E : String) (wf : va_W) (Qf : sw_Qt) : Prop :=
  sw_n C = maxL ∧ sw_R C = rm ∧ sw_l C = l ∧ (∀ x ∈ (sw_c C).exceptionTable.toList, False) ∧ sx_N (sw_s C) ∧ sw_Q C = vx_MQ (sw_b C) (Qf (sw_A C)) (sx_X G E wf (sw_A C)) (sw_a C) (sw_s C) 1 6 (sw_A C)
theorem sx_start {l : Launch} {G : sw_E} {y : MethodName} {wds ws' : List Cond} {rm : Room} {av : List Value} {ws : va_W} {Qf : sw_Qt} {E : String} {cc : ByteArray} {maxL : Nat} {ret : Option FieldType} {lv : List (Nat × Value)} {own : String} (hy : plainName y.cls = true) (hw : wds = Cond.code y cc maxL ret :: ws') (ho : y.cls = own) (hav : lv_args 0 av = lv) (hn : (lg_sl av).length ≤ maxL)
    (body : ∀ C : sw_C, sw_H G C cc own wds → sx_T C l maxL rm G E ws Qf → SW G C 0 0 ws lv 0 []) : sx_M l G y wds rm av ws Qf E := by
  intro sz
  refine vx_ofW (cc := cc) (maxL := maxL) (ret := ret) hy hw ?_
  intro p e s m args below meth c s₁ B hml hx hv
  obtain ⟨⟨rfl, hsz, hP, hK, hD0, hF, hN⟩, hX⟩ := hv
  subst hsz
  have hD := hD0.self (sz := s.heap.size)
  have hl := lv_entry av (n := maxL) hn
  rw [hav] at hl
  rw [lg_entry_eq]
  exact body (p, l, e, rm, s, m, av.toArray, below, meth, c, va_A ws s.heap.size, maxL, vx_MQ below (Qf (va_A ws s.heap.size)) (sx_X G E ws (va_A ws s.heap.size)) av.toArray s 1 6 (va_A ws s.heap.size))
    ⟨B.exec, B.bytes, by rw [← ho]; exact findClass_of_methodNamed B.named, atoms_spec (ws := wds) B.pre, hml, B.notSynchronized, hK, fun q h => Or.inr h, hF, hN⟩
    ⟨rfl, rfl, rfl, hx, hX, rfl⟩
    s.heap [] _ hP hD va_S.rf hl
section SXends
variable {G : sw_E} {C : sw_C} {cc : ByteArray} {own : String} {Ts : List Cond} {k n : Nat} {ws : va_W} {lv : List (Nat × Value)} {pc : Nat} {rest : List Value}
variable {l : Launch} {maxL : Nat} {rm : Room} {wf : va_W} {Qf : sw_Qt} {E : String}
theorem sx_hx (F : sw_H G C cc own Ts) {H : Heap} {locs : List Loc} (hP : va_P G.1 vwCl ws H) (hD : va_D (sw_A C) ws) (hS : va_S (sw_A C) (sw_s C).heap H locs) {t : State} (hvm : (sw_s C).vm.Alike t.vm) (hz : H.size ≤ t.heap.size) (hq : ∀ q : Nat, q < H.size → t.heap[q]? = H[q]?) : sx_X G E ws (sw_A C) E (sw_s C) t := by
  refine ⟨(), trivial, ⟨rfl, hP.kept (fun j q hj => hq q.1 (vx_lt hP hj)), va_K.moved hvm F.2.2.2.2.2.2.1, hD⟩, Nat.le_trans hS.1 hz, fun q h1 h2 => ?_⟩
  rw [hq q (Nat.lt_of_lt_of_le h1 hS.1)]
  exact hS.2.1 q h1 h2
theorem sx_throw (F : sw_H G C cc own Ts) (T : sx_T C l maxL rm G E wf Qf) (hst : l.stackTraces = false) {ik ic : Nat} (hws : ws = wf) (hcls : Bundle.fit E = true) (hk : Cond.classLink own ik E ∈ Ts) (hini : Cond.initialized E ∈ Ts) (hgw : ∀ w ∈ (vx_at0 own ic E sx_up).filter goodWord, w ∈ Ts) (hbw : ∀ w ∈ (vx_at0 own ic E sx_up).filter (fun w => !goodWord w), w ∈ sx_B)
    (hgood : (Cond.classLink own ik E :: Cond.initialized E :: vx_at0 own ic E sx_up).all vx_ot = true)
    (d0 : decode cc pc = .ok (.new ik, 3)) (d3 : decode cc (pc + 3) = .ok (.dup, 1)) (d4 : decode cc (pc + 4) = .ok (.invokespecial ic, 3)) (d7 : decode cc (pc + 7) = .ok (.athrow, 1))
    (hf : 5 < rm.frames) (hlo : (rest.map fun v => v.category).sum + 81 ≤ rm.locals) (hc1 : 1 ≤ rm.cells) (hs1 : 6 ≤ rm.slots) (hk0 : k = 0) (hn0 : n = 0) : SW G C k n ws lv pc rest := by
  subst hws; subst hk0; subst hn0
  intro H locs ls hP hD hS hl
  rw [T.2.2.2.2.2]
  refine vx_throw0 (l := sw_l C) (names := sx_up) (ik := ik) (ic := ic) (A := sw_A C) F.1 F.2.1 (by rw [T.2.2.1]; exact hst) F.2.2.1 hcls (List.all_eq_true.mp (by decide +kernel : sx_up.all Bundle.fit = true)) (F.2.2.2.1 _ hk) (F.2.2.2.1 _ hini)
    (vx_hat (B := sx_B) (fun w hw => F.2.2.2.1 _ (hgw w hw)) hbw (fun w hw => va_tabs (u := sw_s C) (sx_ot (sx_B_dc w hw)) rfl (T.2.2.2.2.1 w hw))) (List.all_eq_true.mp hgood) F.2.2.2.2.2.2.2.2.1.2.2.2.2.1 F.2.2.2.2.2.2.2.2.1.2.2.2.2.2 hS (hl.1.trans F.2.2.2.2.1.symm)
    d0 d3 d4 d7 (fun x hx => (T.2.2.2.1 x hx).elim) ?_ ?_ ?_ ?_ F.2.2.2.2.2.1 ?_ (fun z hz => hS.2.2 z hz) (Nat.le_refl 1) (Nat.le_refl 6)
  · rw [T.2.1]; exact hf
  · rw [T.2.1]; exact hlo
  · rw [T.2.1]; exact hc1
  · rw [T.2.1]; exact hs1
  · exact fun t hvm hz hq => sx_hx F hP hD hS hvm hz hq
end SXends
section SXcalls
variable {G : sw_E} {C : sw_C} {cc : ByteArray} {own : String} {Ts : List Cond} {k n : Nat} {ws : va_W} {lv : List (Nat × Value)} {pc : Nat} {rest : List Value}
variable {l : Launch} {R rm : Room} {y : MethodName} {bytes : ByteArray} {maxL index : Nat} {ret : Option FieldType} {wds ws' : List Cond} {as : List Value} {wc : va_W} {Qf Qg : sw_Qt} {na : Nat} {st0 : List Value} {E : String}
def sx_Run (G : sw_E) (C : sw_C) (k n : Nat) (ws : va_W) (lv : List (Nat × Value)) (pc : Nat) (st0 rest : List Value) (wc : va_W) (Qf : sw_Qt) (E : String) (av : List Value) : Prop :=
  ∀ (H : Heap) (locs : List Loc) (ls : Array Slot), va_P G.1 vwCl ws H → va_D (sw_A C) ws → va_S (sw_A C) (sw_s C).heap H locs → lv_has ls (sw_n C) lv →
    vx_Run (sw_p C) (sw_l C) (sw_e C) (sw_R C) (sw_s C) (sw_m C) (sw_a C) (sw_b C) (sw_t C) (sw_c C) H locs k n 1 6 (F0 (sw_m C) pc ls st0) rest (Qf (va_A wc H.size) av.toArray) (sx_X G E wc (va_A wc H.size)) (va_A wc H.size)
/-- the cells again, behind a call that left its own as they were -/
theorem sx_back {A : Nat → Prop} {H H1 : Heap} (hP : va_P G.1 vwCl ws H) (hD : va_D A ws) (isC : List Nat) (hC : isC.map (fun i => ws[i]?) = wc.map some) (hk : ∀ q : Nat, q < H.size → ¬ va_A wc H.size q → H1[q]? = H[q]?) (hc : va_P G.1 vwCl wc H1) : va_P G.1 vwCl ws H1 := by
  intro j q hj
  rcases Classical.em (∃ i : Nat, wc[i]? = some q) with ⟨i, hi⟩ | hno
  · exact hc i q hi
  · refine (hP j q hj).kept (hk q.1 (vx_lt hP hj) ?_)
    rintro (⟨i, e, hi⟩ | h)
    · have h1 : (isC.map (fun i => ws[i]?))[i]? = some (some (q.1, e)) := by rw [hC, List.getElem?_map, hi]; rfl
      rw [List.getElem?_map] at h1
      cases hz : isC[i]? with
      | none => rw [hz] at h1; exact absurd h1 (by simp)
      | some z =>
        rw [hz] at h1
        have h2 : ws[z]? = some (q.1, e) := Option.some.inj h1
        have h3 := hD.1 z j _ _ h2 hj rfl
        subst h3
        rw [h2] at hj
        exact hno ⟨i, by rw [hi]; exact hj⟩
    · exact absurd (vx_lt hP hj) (Nat.not_lt.mpr h)
theorem sx_pre (F : sw_H G C cc own Ts) (hN : sx_N (sw_s C)) {av : List Value} {H : Heap} {locs : List Loc} (hP : va_P G.1 vwCl ws H) (hD : va_D (sw_A C) ws) (hS : va_S (sw_A C) (sw_s C).heap H locs) (isC : List Nat) (hC : isC.map (fun i => ws[i]?) = wc.map some) (hn : va_nd isC = true) :
    FrameBlind (sx_Pre G av wc H.size) ∧ ∀ U : State, U.heap = H → (sw_s C).WarmedH U.vm → sx_Pre G av wc H.size av.toArray U :=
  ⟨sx_blind, fun U hU hW => ⟨(sw_pre F hP hD hS isC hC hn).2 U hU hW, hN.warm hW⟩⟩
theorem sx_runS (F : sw_H G C cc own Ts) (hN : sx_N (sw_s C)) (hR : sw_R C = R) (hl9 : sw_l C = l) (M : sx_M l G y wds rm as wc Qf E) (isC : List Nat) (hC : isC.map (fun i => ws[i]?) = wc.map some) (hnd : va_nd isC = true) (hT : GoodIn Ts (va_wsS own index y wds)) (hw : wds = Cond.code y bytes maxL ret :: ws') (hrc : rm.cells = 1) (hrs : rm.slots = 6)
    (hd : y.cls ≠ "java/lang/invoke/MethodHandle" ∧ y.cls ≠ "java/lang/invoke/VarHandle" ∧ (parseMethodDescriptor y.desc).map (fun d => d.parameters.length) = some na) (hRm : rm.frames + 1 ≤ R.frames ∧ 8 + (maxL + 11) + rm.locals ≤ R.locals) (hna : as.length = na) (hst : st0 = as.reverse ++ rest) (h8 : (rest.map fun v => v.category).sum ≤ 8) (hdg : decode cc pc = .ok (.invokestatic index, 3)) (hk : k + 1 ≤ R.cells) (hn : n + 6 ≤ R.slots) :
    sx_Run G C k n ws lv pc st0 rest wc Qf E as := by
  subst hR; subst hl9; subst hst
  intro H locs ls hP hD hS hl
  exact vx_runS (As := as) (rest := rest) ⟨F.1, F.2.1, F.2.2.2.2.1, F.2.2.1, F.2.2.2.1⟩ (M H.size) (va_cwS na F.2.2.2.1 hT hw hrc hrs hd hRm) (sx_pre F hN hP hD hS isC hC hnd) rfl hna hl.1 rfl (lv_room h8) hdg ⟨hk, hn⟩
theorem sx_runV (F : sw_H G C cc own Ts) (hN : sx_N (sw_s C)) {Cn : String} {b ci q0 : Nat} {q : vw_C} {fs : List Value} (hR : sw_R C = R) (hl9 : sw_l C = l) (M : sx_M l G y wds rm (.ref b :: as) wc Qf E) (isC : List Nat) (hC : isC.map (fun i => ws[i]?) = wc.map some) (hnd : va_nd isC = true) (hT : GoodIn Ts (wsV own index Cn y wds)) (hw : wds = Cond.code y bytes maxL ret :: ws') (hrc : rm.cells = 1) (hrs : rm.slots = 6)
    (hd : y.cls = Cn ∧ y.cls ≠ "java/lang/invoke/MethodHandle" ∧ y.cls ≠ "java/lang/invoke/VarHandle" ∧ (parseMethodDescriptor y.desc).map (fun d => d.parameters.length) = some na) (hRm : rm.frames + 1 ≤ R.frames ∧ 8 + (maxL + 11) + rm.locals ≤ R.locals) (hc : vwCl[ci]? = some q) (hq : ws[q0]? = some (b, .inr (ci, fs))) (hCn : q.1 = Cn) (hna : as.length = na) (hst : st0 = as.reverse ++ .ref b :: rest) (h8 : (rest.map fun v => v.category).sum ≤ 8) (hdg : decode cc pc = .ok (.invokevirtual index, 3)) (hk : k + 1 ≤ R.cells) (hn : n + 6 ≤ R.slots) :
    sx_Run G C k n ws lv pc st0 rest wc Qf E (.ref b :: as) := by
  subst hR; subst hl9; subst hst; subst hCn
  intro H locs ls hP hD hS hl
  exact vx_runV (As := as) (rest := rest) ⟨F.1, F.2.1, F.2.2.2.2.1, F.2.2.1, F.2.2.2.1⟩ (M H.size) (cwV na F.2.2.2.1 hT hw hrc hrs hd hRm) ⟨sx_blind, va_recv F.2.2.2.2.2.2.1 hP hc hq, (sx_pre F hN hP hD hS isC hC hnd).2⟩ rfl hna hl.1 rfl (lv_room h8) hdg ⟨hk, hn⟩
/-- posts of methods that only throw -/
def sx_QV (G : sw_E) : sw_Qt := sw_QV G (S := Unit) (fun _ => False) (fun _ => [])
def sx_QI (G : sw_E) : sw_Qt := sw_QI G (S := Unit) (fun _ _ => False) (fun _ => [])
def sx_QL (G : sw_E) : sw_Qt := sw_QL G (S := Unit) (fun _ _ => False) (fun _ => [])
/-- what has been thrown goes on out of this method -/
theorem sx_go (F : sw_H G C cc own Ts) {mL : Nat} (T : sx_T C l mL rm G E ws Qg) (hk0 : k = 0) (hn0 : n = 0) {H : Heap} {ls : Array Slot} (hP : va_P G.1 vwCl ws H) (hD : va_D (sw_A C) ws) (isC : List Nat) (hC : isC.map (fun i => ws[i]?) = wc.map some) :
    ∀ (E' : String) (ce : Cell) (q9 : Addr) (u : Unit) (t : State) (H1 : Heap) (locs1 : List Loc), t.heap = H1 → (sw_s C).vm.Alike t.vm → True → (E' = E ∧ sw_B G (va_A wc H.size) (fun _ : Unit => wc) u t) → H.size ≤ H1.size → (∀ q : Nat, q < H.size → ¬ va_A wc H.size q → H1[q]? = H[q]?) → va_S (sw_A C) (sw_s C).heap H1 locs1 → H1[q9]? = some ce → ce.vm = .none → (sw_s C).vm.findClass E' = some ce.cls →
      vx_W (sw_p C) (sw_l C) (sw_e C) (sw_R C) (sw_s C) (sw_m C) (sw_a C) (sw_b C) (sw_t C) (sw_c C) H1 locs1 (k + 1) (n + 6) (sw_Q C) (F0 (sw_m C) pc ls rest) q9 := by
  subst hk0; subst hn0
  intro E' ce q9 u t H1 locs1 ht hvm _ hb hz hk1 hS1 hce hcv hcl
  obtain ⟨rfl, hP1, -, -⟩ := hb
  rw [ht] at hP1
  rw [T.2.2.2.2.2]
  refine vx_out (fun x hx => (T.2.2.2.1 x hx).elim) F.2.2.2.2.2.1 hce hcv hcl (fun t' ht' hvm' => ?_) hS1.2.2 (Nat.le_refl 1) (Nat.le_refl 6)
  exact sx_hx F (sx_back hP hD isC hC hk1 hP1) hD hS1 hvm' (by rw [ht']; exact Nat.le_refl _) (fun q _ => by rw [ht'])
theorem sx_callv (F : sw_H G C cc own Ts) {mL : Nat} (T : sx_T C l mL rm G E ws Qg) {av : List Value} (hrun : sx_Run G C k n ws lv pc st0 rest wc (sx_QV G) E av) (isC : List Nat) (hC : isC.map (fun i => ws[i]?) = wc.map some) (hk0 : k = 0) (hn0 : n = 0) : SW G C k n ws lv pc st0 := by
  intro H locs ls hP hD hS hl
  have hFc := va_free hD hS F.2.2.2.2.2.2.2.1 isC hC
  exact vx_callv (a := av.toArray) (hrun H locs ls hP hD hS hl) hS (fun q _ h => hFc q h) hFc (fun q _ h => hFc q h) (sx_go F T hk0 hn0 hP hD isC hC) (fun u t H1 locs1 ht hvm hf => hf.elim)
theorem sx_calli (F : sw_H G C cc own Ts) {mL : Nat} (T : sx_T C l mL rm G E ws Qg) {av : List Value} (hrun : sx_Run G C k n ws lv pc st0 rest wc (sx_QI G) E av) (isC : List Nat) (hC : isC.map (fun i => ws[i]?) = wc.map some) (hk0 : k = 0) (hn0 : n = 0) : SW G C k n ws lv pc st0 := by
  intro H locs ls hP hD hS hl
  have hFc := va_free hD hS F.2.2.2.2.2.2.2.1 isC hC
  exact vx_calli (a := av.toArray) (hrun H locs ls hP hD hS hl) hS (fun q _ h => hFc q h) hFc (fun q _ h => hFc q h) (sx_go F T hk0 hn0 hP hD isC hC) (fun r u t H1 locs1 ht hvm hf => hf.elim)
theorem sx_calll (F : sw_H G C cc own Ts) {mL : Nat} (T : sx_T C l mL rm G E ws Qg) {av : List Value} (hrun : sx_Run G C k n ws lv pc st0 rest wc (sx_QL G) E av) (isC : List Nat) (hC : isC.map (fun i => ws[i]?) = wc.map some) (hk0 : k = 0) (hn0 : n = 0) : SW G C k n ws lv pc st0 := by
  intro H locs ls hP hD hS hl
  have hFc := va_free hD hS F.2.2.2.2.2.2.2.1 isC hC
  exact vx_calll (a := av.toArray) (hrun H locs ls hP hD hS hl) hS (fun q _ h => hFc q h) hFc (fun q _ h => hFc q h) (sx_go F T hk0 hn0 hP hD isC hC) (fun r u t H1 locs1 ht hvm hf => hf.elim)
end SXcalls
