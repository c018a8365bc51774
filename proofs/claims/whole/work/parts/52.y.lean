/-! ===== methods with an exception table: nothing leaves them ===== -/
/-- and what the tables say of the classes thrown: which rows pass them over -/
def sy_N (U : State) : Prop := sx_N U ∧ va_Nc sx_IA sx_IO U ∧ va_Nc sx_IS sx_IA U
theorem sy_N.warm {s U : State} (hW : s.WarmedH U.vm) (h : sy_N s) : sy_N U := ⟨h.1.warm hW, h.2.1.moved hW.alike, h.2.2.moved hW.alike⟩
theorem sy_N.call {U : State} {g : JFrame} {mk : MethodId} {a : Array Value} (h : sy_N U) : sy_N (U.calling g mk a) := ⟨h.1.call, h.2.1.moved (Vm.Alike.refl U.vm), h.2.2.moved (Vm.Alike.refl U.vm)⟩
def sy_Pre (G : sw_E) (av : List Value) (ws : va_W) (sz : Nat) : Array Value → State → Prop := fun a U => sw_Pre G av ws sz a U ∧ sy_N U
theorem sy_blind {G : sw_E} {av : List Value} {ws : va_W} {sz : Nat} : FrameBlind (sy_Pre G av ws sz) := fun a U g mk q => ⟨sw_blind a U g mk q.1, q.2.call⟩
def sy_XC (A : Nat → Prop) : String → State → State → Prop := vx_X (S := Unit) (fun _ => False) (fun _ _ _ => True) A
def sy_M (l : Launch) (G : sw_E) (y : MethodName) (wds : List Cond) (rm : Room) (av : List Value) (ws : va_W) (Qf : sw_Qt) (mc ms : Nat) : Prop := ∀ sz : Nat, vx_Met l y wds rm (sy_Pre G av ws sz) (Qf (va_A ws sz)) (sy_XC (va_A ws sz)) mc ms (va_A ws sz)
def sy_T (C : sw_C) (l : Launch) (maxL : Nat) (rm : Room) (ret : Option FieldType) (hh : List (Nat × Nat × Nat × Nat)) (Qf : sw_Qt) (mc ms : Nat) : Prop :=
  sw_n C = maxL ∧ sw_R C = rm ∧ sw_l C = l ∧ (sw_t C).sig.returnType = ret ∧ (sw_c C).exceptionTable.toList = tableOf hh ∧ sy_N (sw_s C) ∧ sw_Q C = vx_MQ (sw_b C) (Qf (sw_A C)) (sy_XC (sw_A C)) (sw_a C) (sw_s C) mc ms (sw_A C)
theorem sy_start {l : Launch} {G : sw_E} {y : MethodName} {wds ws' : List Cond} {rm : Room} {av : List Value} {ws : va_W} {Qf : sw_Qt} {mc ms : Nat} {cc : ByteArray} {maxL : Nat} {ret : Option FieldType} {hh : List (Nat × Nat × Nat × Nat)} {lv : List (Nat × Value)} {own : String} (hy : plainName y.cls = true) (hw : wds = Cond.codeWith y cc maxL ret hh :: ws') (ho : y.cls = own) (hav : lv_args 0 av = lv) (hn : (lg_sl av).length ≤ maxL)
    (body : ∀ C : sw_C, sw_H G C cc own wds → sy_T C l maxL rm ret hh Qf mc ms → SW G C 0 0 ws lv 0 []) : sy_M l G y wds rm av ws Qf mc ms := by
  intro sz
  refine vx_ofWH (cc := cc) (maxL := maxL) (ret := ret) (hh := hh) hy hw ?_
  intro p e s m args below meth c s₁ B hml hv
  obtain ⟨⟨rfl, hsz, hP, hK, hD0, hF, hN⟩, hX⟩ := hv
  subst hsz
  have hD := hD0.self (sz := s.heap.size)
  have hl := lv_entry av (n := maxL) hn
  rw [hav] at hl
  rw [lg_entry_eq]
  have hts := atoms_spec (ws := wds) B.pre
  exact body (p, l, e, rm, s, m, av.toArray, below, meth, c, va_A ws s.heap.size, maxL, vx_MQ below (Qf (va_A ws s.heap.size)) (sy_XC (va_A ws s.heap.size)) av.toArray s mc ms (va_A ws s.heap.size))
    ⟨B.exec, B.bytes, by rw [← ho]; exact findClass_of_methodNamed B.named, hts, hml, B.notSynchronized, hK, fun q h => Or.inr h, hF, hN⟩
    ⟨rfl, rfl, rfl, B.returns, vx_table (x := y) (hh := hh) B (hts _ (by rw [hw]; exact List.mem_cons_self)), hX, rfl⟩
    s.heap [] _ hP hD va_S.rf hl
section SYends
variable {G : sw_E} {C : sw_C} {cc : ByteArray} {own : String} {Ts : List Cond} {k n : Nat} {ws : va_W} {lv : List (Nat × Value)} {pc : Nat} {st0 rest : List Value}
variable {l : Launch} {maxL mc ms : Nat} {rm : Room} {S : Type} {wf : S → va_W} {hh : List (Nat × Nat × Nat × Nat)} {wc : va_W} {Qf : sw_Qt} {E : String} {ret : Option FieldType}
theorem sy_iret (F : sw_H G C cc own Ts) {post : Int32 → S → Prop} {ty : FieldType} (T : sy_T C l maxL rm ret hh (sw_QI G post wf) k n) {v : Int32} (hty : ret = some ty) (hz : narrow ty (.int v) = .int v) (u : S) (hp : post v u) (hws : ws = wf u) (hdg : decode cc pc = .ok (.ireturn, 1)) : SW G C k n ws lv pc [.int v] := by
  intro H locs ls hP hD hS hl
  rw [T.2.2.2.2.2.2]
  refine vx_ret ?_
  exact W.zret (ty := ty) F.1 F.2.1 (T.2.2.2.1.trans hty) hz (fun t ht hW => ⟨⟨v, u, rfl, hp, by rw [ht, ← hws]; exact hP, va_K.moved hW.alike F.2.2.2.2.2.2.1, by rw [← hws]; exact hD⟩, hS.F ht⟩) hS.2.2 hdg F.2.2.2.2.2.1
theorem sy_take (F : sw_H G C cc own Ts) (T : sy_T C l maxL rm ret hh Qf mc ms) {x : ExceptionTableEntry} (pre suf : List ExceptionTableEntry) (hsplit : tableOf hh = pre ++ x :: suf)
    (hpass : ∀ z ∈ pre, z.catchType ≠ 0 ∧ ∃ nm : String, Cond.classLink own z.catchType nm ∈ Ts ∧ va_Nc E nm (sw_s C)) (hx : covers x pc = true) (h0 : x.catchType ≠ 0) (hlink : Cond.classLink own x.catchType E ∈ Ts) (hcast : Cond.castable E E ∈ sx_B)
    {H : Heap} {ls : Array Slot} (hP : va_P G.1 vwCl ws H) (hD : va_D (sw_A C) ws) (hl : lv_has ls (sw_n C) lv) (isC : List Nat) (hCc : isC.map (fun i => ws[i]?) = wc.map some) (kk : ∀ q : Nat, SW G C (k + 1) (n + 6) ws lv x.handlerPc [.ref q]) :
    ∀ (E' : String) (ce : Cell) (q9 : Addr) (u : Unit) (t : State) (H1 : Heap) (locs1 : List Loc), t.heap = H1 → (sw_s C).vm.Alike t.vm → True → (E' = E ∧ sw_B G (va_A wc H.size) (fun _ : Unit => wc) u t) → H.size ≤ H1.size → (∀ q : Nat, q < H.size → ¬ va_A wc H.size q → H1[q]? = H[q]?) → va_S (sw_A C) (sw_s C).heap H1 locs1 → H1[q9]? = some ce → ce.vm = .none → (sw_s C).vm.findClass E' = some ce.cls →
      vx_W (sw_p C) (sw_l C) (sw_e C) (sw_R C) (sw_s C) (sw_m C) (sw_a C) (sw_b C) (sw_t C) (sw_c C) H1 locs1 (k + 1) (n + 6) (sw_Q C) (F0 (sw_m C) pc ls rest) q9 := by
  intro E' ce q9 u t H1 locs1 ht hvm _ hb hz hk1 hS1 hce hcv hcl
  obtain ⟨rfl, hP1, -, -⟩ := hb
  rw [ht] at hP1
  exact vx_catch F.2.2.1 pre x suf (T.2.2.2.2.1.trans hsplit) (fun z hz => Or.inr ⟨(hpass z hz).1, (hpass z hz).2.elim fun nm h => ⟨nm, F.2.2.2.1 _ h.1, h.2⟩⟩) hx h0 (F.2.2.2.1 _ hlink) (va_tabs (u := sw_s C) rfl rfl (T.2.2.2.2.2.1.1 _ hcast)) hce hcv hcl
    (kk q9 H1 locs1 ls (sx_back hP hD isC hCc hk1 hP1) hD hS1 hl)
theorem sy_calli (F : sw_H G C cc own Ts) (T : sy_T C l maxL rm ret hh Qf mc ms) {av : List Value} (hrun : sx_Run G C k n ws lv pc st0 rest wc (sx_QI G) E av) (isC : List Nat) (hCc : isC.map (fun i => ws[i]?) = wc.map some) {x : ExceptionTableEntry} (pre suf : List ExceptionTableEntry) (hsplit : tableOf hh = pre ++ x :: suf)
    (hpass : ∀ z ∈ pre, z.catchType ≠ 0 ∧ ∃ nm : String, Cond.classLink own z.catchType nm ∈ Ts ∧ va_Nc E nm (sw_s C)) (hx : covers x pc = true) (h0 : x.catchType ≠ 0) (hlink : Cond.classLink own x.catchType E ∈ Ts) (hcast : Cond.castable E E ∈ sx_B) (kk : ∀ q : Nat, SW G C (k + 1) (n + 6) ws lv x.handlerPc [.ref q]) : SW G C k n ws lv pc st0 := by
  intro H locs ls hP hD hS hl
  have hFc := va_free hD hS F.2.2.2.2.2.2.2.1 isC hCc
  exact vx_calli (a := av.toArray) (hrun H locs ls hP hD hS hl) hS (fun q _ h => hFc q h) hFc (fun q _ h => hFc q h) (sy_take F T pre suf hsplit hpass hx h0 hlink hcast hP hD hl isC hCc kk) (fun r u t H1 locs1 ht hvm hf => hf.elim)
theorem sy_calll (F : sw_H G C cc own Ts) (T : sy_T C l maxL rm ret hh Qf mc ms) {av : List Value} (hrun : sx_Run G C k n ws lv pc st0 rest wc (sx_QL G) E av) (isC : List Nat) (hCc : isC.map (fun i => ws[i]?) = wc.map some) {x : ExceptionTableEntry} (pre suf : List ExceptionTableEntry) (hsplit : tableOf hh = pre ++ x :: suf)
    (hpass : ∀ z ∈ pre, z.catchType ≠ 0 ∧ ∃ nm : String, Cond.classLink own z.catchType nm ∈ Ts ∧ va_Nc E nm (sw_s C)) (hx : covers x pc = true) (h0 : x.catchType ≠ 0) (hlink : Cond.classLink own x.catchType E ∈ Ts) (hcast : Cond.castable E E ∈ sx_B) (kk : ∀ q : Nat, SW G C (k + 1) (n + 6) ws lv x.handlerPc [.ref q]) : SW G C k n ws lv pc st0 := by
  intro H locs ls hP hD hS hl
  have hFc := va_free hD hS F.2.2.2.2.2.2.2.1 isC hCc
  exact vx_calll (a := av.toArray) (hrun H locs ls hP hD hS hl) hS (fun q _ h => hFc q h) hFc (fun q _ h => hFc q h) (sy_take F T pre suf hsplit hpass hx h0 hlink hcast hP hD hl isC hCc kk) (fun r u t H1 locs1 ht hvm hf => hf.elim)
end SYends
theorem va_nd_of : ∀ l : List Nat, l.Nodup → va_nd l = true
  | [], _ => rfl
  | a :: l, h => by
    obtain ⟨h1, h2⟩ := List.nodup_cons.mp h
    unfold va_nd
    rw [va_nd_of l h2]
    simp [h1]
/-- the places behind the first cell -/
def sy_is (wc : va_W) : List Nat := List.range' 1 wc.length
theorem sy_is_nd (wc : va_W) : va_nd (sy_is wc) = true := va_nd_of _ List.nodup_range'
theorem sy_is_map (c : Nat × va_E) (wc : va_W) : (sy_is wc).map (fun i => (c :: wc)[i]?) = wc.map some := by
  apply List.ext_getElem?
  intro j
  rw [List.getElem?_map, List.getElem?_map]
  unfold sy_is
  rcases Nat.lt_or_ge j wc.length with h | h
  · rw [List.getElem?_range' (by omega)]
    simp only [Option.map_some, Nat.one_mul]
    rw [show 1 + j = j + 1 by omega, List.getElem?_cons_succ, List.getElem?_eq_getElem h]
    rfl
  · rw [List.getElem?_eq_none (by simp; omega), List.getElem?_eq_none h]
    rfl
theorem sy_is_dis (wc : va_W) : ∀ i ∈ [0], i ∉ sy_is wc := by
  intro i hi h
  rw [List.mem_singleton] at hi
  unfold sy_is at h
  rw [hi, List.mem_range'_1] at h
  omega
