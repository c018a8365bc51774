/-! the layer, second part: heap rows, calls, starts and ends -/
section SWheap
variable {G : sw_E} {C : sw_C} {cc : ByteArray} {own : String} {Ts : List Cond} {k n : Nat} {ws : va_W} {lv : List (Nat × Value)} {pc : Nat} {rest : List Value}
theorem sw_get (F : sw_H G C cc own Ts) {Cn ref nm ds : String} {T : u_T} {N ci index a : Nat} {fin : Bool} {fs : List Value} {v : Value} (hin : ∀ w ∈ u_ws Cn T N, w ∈ Ts) (q0 : Nat) (he : ws[q0]? = some (a, .inr (ci, fs))) (hc : vwCl[ci]? = some (Cn, T, N)) (j : Nat) (hj : j < N) (hT : T j = (ref, nm, ds, fin)) (hlink : Cond.fieldLink own index ref nm ds ∈ Ts) (hv : fs[j]? = some v) (hdg : decode cc pc = .ok (.getfield index, 3)) (kk : SW G C k n ws lv (pc + 3) (v :: rest)) : SW G C k n ws lv pc (.ref a :: rest) :=
  fun H locs ls hP hD hS hl => va_get F.1 F.2.1 F.2.2.2.1 hin F.2.2.1 F.2.2.2.2.2.2.1 hP q0 he hc j hj (by rw [hT]; exact F.2.2.2.1 _ hlink) (by rw [hT]; exact fun _ h => h) hv hdg (kk H locs ls hP hD hS hl)
theorem sw_put (F : sw_H G C cc own Ts) {Cn ref nm ds : String} {T : u_T} {N ci index a : Nat} {fs : List Value} {v : Value} {ty0 : Nat → FieldType} {ty : FieldType} {ws' : va_W} (hin : ∀ w ∈ u_ws Cn T N, w ∈ Ts) (hty : ∀ z, z < N → parseFieldDescriptor (T z).2.2.1 = some (ty0 z)) (hnm : ∀ x, x < N → ∀ y, y < N → x ≠ y → (T x).2.1 ≠ (T y).2.1) (q0 : Nat) (he : ws[q0]? = some (a, .inr (ci, fs))) (hc : vwCl[ci]? = some (Cn, T, N)) (j : Nat) (hj : j < N) (hT : T j = (ref, nm, ds, false)) (hlink : Cond.fieldLink own index ref nm ds ∈ Ts) (htyj : ty0 j = ty) (hn : narrow ty v = v) (hfit : fits ty v = true) (hlen : j < fs.length) (hdg : decode cc pc = .ok (.putfield index, 3)) (hws : ws.set q0 (a, .inr (ci, fs.set j v)) = ws') (kk : SW G C k n ws' lv (pc + 3) rest) : SW G C k n ws lv pc (v :: .ref a :: rest) := by
  subst hws
  exact fun H locs ls hP hD hS hl => va_put F.1 F.2.1 F.2.2.2.1 hin ty0 hty hnm F.2.2.1 F.2.2.2.2.2.2.1 hP hD hS q0 he hc j hj (by rw [hT]; exact F.2.2.2.1 _ hlink) (by rw [hT]; exact fun _ h => h) (by rw [hT]) (by rw [hty j hj, htyj]) hn hfit hlen hdg (fun H1 locs1 hP1 hD1 hS1 => kk H1 locs1 ls hP1 hD1 hS1 hl)
theorem sw_putF (F : sw_H G C cc own Ts) {Cn nm ds : String} {T : u_T} {N ci index a : Nat} {fs : List Value} {v : Value} {ty0 : Nat → FieldType} {ty : FieldType} {ws' : va_W} (hinit : (sw_t C).name = "<init>") (hin : ∀ w ∈ u_ws Cn T N, w ∈ Ts) (hty : ∀ z, z < N → parseFieldDescriptor (T z).2.2.1 = some (ty0 z)) (hnm : ∀ x, x < N → ∀ y, y < N → x ≠ y → (T x).2.1 ≠ (T y).2.1) (q0 : Nat) (he : ws[q0]? = some (a, .inr (ci, fs))) (hc : vwCl[ci]? = some (Cn, T, N)) (j : Nat) (hj : j < N) (hT : T j = (own, nm, ds, true)) (hlink : Cond.fieldLink own index own nm ds ∈ Ts) (htyj : ty0 j = ty) (hn : narrow ty v = v) (hfit : fits ty v = true) (hlen : j < fs.length) (hdg : decode cc pc = .ok (.putfield index, 3)) (hws : ws.set q0 (a, .inr (ci, fs.set j v)) = ws') (kk : SW G C k n ws' lv (pc + 3) rest) : SW G C k n ws lv pc (v :: .ref a :: rest) := by
  subst hws
  exact fun H locs ls hP hD hS hl => va_putF F.1 F.2.1 F.2.2.2.1 hin ty0 hty hnm F.2.2.1 F.2.2.2.2.2.2.1 hP hD hS q0 he hc j hj (by rw [hT]; exact F.2.2.2.1 _ hlink) (by rw [hT]; exact fun _ h => h) (by rw [hT]) hinit (by rw [hT]) (by rw [hty j hj, htyj]) hn hfit hlen hdg (fun H1 locs1 hP1 hD1 hS1 => kk H1 locs1 ls hP1 hD1 hS1 hl)
theorem sw_iald (F : sw_H G C cc own Ts) {a N : Nat} {f : Nat → Int32} {i : Int32} (q0 : Nat) (he : ws[q0]? = some (a, .inl (G.2.1.1, N, .inl f))) (hin : vp_in i N) (hdg : decode cc pc = .ok (.iaload, 1)) (kk : SW G C k n ws lv (pc + 1) (.int (f i.toNatClampNeg) :: rest)) : SW G C k n ws lv pc (.int i :: .ref a :: rest) :=
  fun H locs ls hP hD hS hl => va_iald F.1 F.2.1 F.2.2.2.2.2.2.1 hP q0 0 he rfl hin hdg (kk H locs ls hP hD hS hl)
theorem sw_lald (F : sw_H G C cc own Ts) {a N : Nat} {f : Nat → Int64} {i : Int32} (q0 : Nat) (he : ws[q0]? = some (a, .inl (G.2.1.2, N, .inr (.inl f)))) (hin : vp_in i N) (hdg : decode cc pc = .ok (.laload, 1)) (kk : SW G C k n ws lv (pc + 1) (.long (f i.toNatClampNeg) :: rest)) : SW G C k n ws lv pc (.int i :: .ref a :: rest) :=
  fun H locs ls hP hD hS hl => va_lald F.1 F.2.1 F.2.2.2.2.2.2.1 hP q0 1 he rfl hin hdg (kk H locs ls hP hD hS hl)
theorem sw_iast (F : sw_H G C cc own Ts) {a N : Nat} {f : Nat → Int32} {i x : Int32} {ws' : va_W} (q0 : Nat) (he : ws[q0]? = some (a, .inl (G.2.1.1, N, .inl f))) (hin : vp_in i N) (hdg : decode cc pc = .ok (.iastore, 1)) (hws : ws.set q0 (a, .inl (G.2.1.1, N, .inl (upd f i.toNatClampNeg x))) = ws') (kk : SW G C k n ws' lv (pc + 1) rest) : SW G C k n ws lv pc (.int x :: .int i :: .ref a :: rest) := by
  subst hws
  exact fun H locs ls hP hD hS hl => va_iast F.1 F.2.1 F.2.2.2.2.2.2.1 hP hD hS q0 0 he rfl hin hdg (fun H1 locs1 hP1 hD1 hS1 => kk H1 locs1 ls hP1 hD1 hS1 hl)
theorem sw_last (F : sw_H G C cc own Ts) {a N : Nat} {f : Nat → Int64} {i : Int32} {x : Int64} {ws' : va_W} (q0 : Nat) (he : ws[q0]? = some (a, .inl (G.2.1.2, N, .inr (.inl f)))) (hin : vp_in i N) (hdg : decode cc pc = .ok (.lastore, 1)) (hws : ws.set q0 (a, .inl (G.2.1.2, N, .inr (.inl (vp_updL f i.toNatClampNeg x)))) = ws') (kk : SW G C k n ws' lv (pc + 1) rest) : SW G C k n ws lv pc (.long x :: .int i :: .ref a :: rest) := by
  subst hws
  exact fun H locs ls hP hD hS hl => va_last F.1 F.2.1 F.2.2.2.2.2.2.1 hP hD hS q0 1 he rfl hin hdg (fun H1 locs1 hP1 hD1 hS1 => kk H1 locs1 ls hP1 hD1 hS1 hl)
theorem sw_alenI (F : sw_H G C cc own Ts) {a : Nat} {x : vp_A} {v : Int32} (q0 : Nat) (he : ws[q0]? = some (a, .inl (G.2.1.1, x))) (hv : Int32.ofNat x.1 = v) (hdg : decode cc pc = .ok (.arraylength, 1)) (kk : SW G C k n ws lv (pc + 1) (.int v :: rest)) : SW G C k n ws lv pc (.ref a :: rest) :=
  fun H locs ls hP hD hS hl => va_alen F.1 F.2.1 F.2.2.2.2.2.2.1 hP q0 0 he rfl hv hdg (kk H locs ls hP hD hS hl)
theorem sw_alenJ (F : sw_H G C cc own Ts) {a : Nat} {x : vp_A} {v : Int32} (q0 : Nat) (he : ws[q0]? = some (a, .inl (G.2.1.2, x))) (hv : Int32.ofNat x.1 = v) (hdg : decode cc pc = .ok (.arraylength, 1)) (kk : SW G C k n ws lv (pc + 1) (.int v :: rest)) : SW G C k n ws lv pc (.ref a :: rest) :=
  fun H locs ls hP hD hS hl => va_alen F.1 F.2.1 F.2.2.2.2.2.2.1 hP q0 1 he rfl hv hdg (kk H locs ls hP hD hS hl)
/-- a table's cell, its length -/
theorem sw_tbld (F : sw_H G C cc own Ts) {t N : Nat} {f : Nat → Value} (hT : va_T .int t N f (sw_A C) (sw_s C) (sw_s C).heap) {i : Int32} (hin : vp_in i N) {v : Value} (hv : f i.toNatClampNeg = v) (hdg : decode cc pc = .ok (.iaload, 1)) (kk : SW G C k n ws lv (pc + 1) (v :: rest)) : SW G C k n ws lv pc (.int i :: .ref t :: rest) :=
  fun H locs ls hP hD hS hl => va_ti F.1 F.2.1 hT hS hin hv hdg (kk H locs ls hP hD hS hl)
theorem sw_gets (F : sw_H G C cc own Ts) {nm : String} {index : Nat} {v : Value} (ho : own = RX3) (hZ : va_Z RX9 nm "[I" v (sw_A C) (sw_s C) (sw_s C).heap) (hm : (index, nm) ∈ sw_nestF) (hdg : decode cc pc = .ok (.getstatic index, 3)) (kk : SW G C k n ws lv (pc + 3) (v :: rest)) : SW G C k n ws lv pc rest := by
  subst ho
  exact fun H locs ls hP hD hS hl => va_getsN F.1 F.2.1 hZ hS F.2.2.1 (va_Nw.use rfl (F.2.2.2.2.2.2.2.2.2.2 _ hm)) (fun _ h => h) hdg (kk H locs ls hP hD hS hl)
theorem sw_widen {k' n' : Nat} (h1 : k ≤ k') (h2 : n ≤ n') {st : List Value} (kk : SW G C k' n' ws lv pc st) : SW G C k n ws lv pc st :=
  fun H locs ls hP hD hS hl => W.widen h1 h2 (kk H locs ls hP hD hS hl)
/-- the same cells in another order, or fewer -/
theorem sw_perm {ws' : va_W} {st : List Value} (is : List Nat) (hn : va_nd is = true) (hs : is.map (fun i => ws[i]?) = ws'.map some) (kk : SW G C k n ws' lv pc st) : SW G C k n ws lv pc st := by
  intro H locs ls hP hD hS hl
  refine kk H locs ls (fun j q hq => ?_) (hD.sub is hn hs) hS hl
  have h1 : (is.map (fun i => ws[i]?))[j]? = some (some q) := by rw [hs, List.getElem?_map, hq]; rfl
  rw [List.getElem?_map] at h1
  cases hi : is[j]? with
  | none => rw [hi] at h1; cases h1
  | some i => rw [hi] at h1; exact hP i q (Option.some.inj h1)
theorem sw_eq {ws' : va_W} {lv' : List (Nat × Value)} {st st' : List Value} (h1 : ws = ws') (h2 : lv = lv') (h3 : st = st') (kk : SW G C k n ws' lv' pc st') : SW G C k n ws lv pc st := by
  subst h1; subst h2; subst h3; exact kk
theorem sw_max (F : sw_H G C cc own Ts) {x y : Int32} {index : Nat} {rm : Room} (hR : sw_R C = rm) (hlink : Cond.methodLink own index Lib.Math.max.name ∈ Ts) (hstat : Cond.static Lib.Math.max.name ∈ Ts) (hini : Cond.initialized "java/lang/Math" ∈ Ts) (hcode : Cond.code Lib.Math.max.name Lib.Math.max.code 2 (some .int) ∈ Ts) (hf : 1 ≤ rm.frames) (hlo : (rest.map fun v => v.category).sum + 13 ≤ rm.locals) (hk : k ≤ rm.cells) (hn : n ≤ rm.slots) (hdg : decode cc pc = .ok (.invokestatic index, 3)) (kk : SW G C k n ws lv (pc + 3) (.int (if x < y then y else x) :: rest)) : SW G C k n ws lv pc (.int y :: .int x :: rest) := by
  subst hR
  exact fun H locs ls hP hD hS hl => va_mmax F.1 F.2.1 (F.2.2.2.2.1.trans hl.1.symm) F.2.2.1 (F.2.2.2.1 _ hlink) (F.2.2.2.1 _ hstat) (F.2.2.2.1 _ hini) (F.2.2.2.1 _ hcode) hf hlo hk hn hdg (kk H locs ls hP hD hS hl)
theorem sw_min (F : sw_H G C cc own Ts) {x y : Int32} {index : Nat} {rm : Room} (hR : sw_R C = rm) (hlink : Cond.methodLink own index Lib.Math.min.name ∈ Ts) (hstat : Cond.static Lib.Math.min.name ∈ Ts) (hini : Cond.initialized "java/lang/Math" ∈ Ts) (hcode : Cond.code Lib.Math.min.name Lib.Math.min.code 2 (some .int) ∈ Ts) (hf : 1 ≤ rm.frames) (hlo : (rest.map fun v => v.category).sum + 13 ≤ rm.locals) (hk : k ≤ rm.cells) (hn : n ≤ rm.slots) (hdg : decode cc pc = .ok (.invokestatic index, 3)) (kk : SW G C k n ws lv (pc + 3) (.int (if y < x then y else x) :: rest)) : SW G C k n ws lv pc (.int y :: .int x :: rest) := by
  subst hR
  exact fun H locs ls hP hD hS hl => va_mmin F.1 F.2.1 (F.2.2.2.2.1.trans hl.1.symm) F.2.2.1 (F.2.2.2.1 _ hlink) (F.2.2.2.1 _ hstat) (F.2.2.2.1 _ hini) (F.2.2.2.1 _ hcode) hf hlo hk hn hdg (kk H locs ls hP hD hS hl)
theorem sw_maxL (F : sw_H G C cc own Ts) {x y : Int64} {index : Nat} {rm : Room} (hR : sw_R C = rm) (hlink : Cond.methodLink own index Lib.MathLoose.max_long.x ∈ Ts) (hstat : Cond.static Lib.MathLoose.max_long.x ∈ Ts) (hini : Cond.initialized "java/lang/Math" ∈ Ts) (hcode : Cond.code Lib.MathLoose.max_long.x Lib.MathLoose.max_long.code 4 (some .long) ∈ Ts) (hf : 1 ≤ rm.frames) (hlo : (rest.map fun v => v.category).sum + 15 ≤ rm.locals) (hk : k ≤ rm.cells) (hn : n ≤ rm.slots) (hdg : decode cc pc = .ok (.invokestatic index, 3)) (kk : SW G C k n ws lv (pc + 3) (.long (if y < x then x else y) :: rest)) : SW G C k n ws lv pc (.long y :: .long x :: rest) := by
  subst hR
  exact fun H locs ls hP hD hS hl => va_mmax_long F.1 F.2.1 (F.2.2.2.2.1.trans hl.1.symm) F.2.2.1 (F.2.2.2.1 _ hlink) (F.2.2.2.1 _ hstat) (F.2.2.2.1 _ hini) (F.2.2.2.1 _ hcode) hf hlo hk hn hdg (kk H locs ls hP hD hS hl)
theorem sw_objInit (F : sw_H G C cc own Ts) {idx a : Nat} {rm : Room} (hR : sw_R C = rm) (hlink : Cond.methodLink own idx objectInit ∈ Ts) (hinst : Cond.instanceMethod objectInit ∈ Ts) (hcode : Cond.code objectInit ⟨#[0xb1]⟩ 1 none ∈ Ts) (hdg : decode cc pc = .ok (.invokespecial idx, 3)) (hf : 1 ≤ rm.frames) (hlo : (rest.map fun v => v.category).sum + 12 ≤ rm.locals) (kk : SW G C k n ws lv (pc + 3) rest) : SW G C k n ws lv pc (.ref a :: rest) := by
  subst hR
  exact fun H locs ls hP hD hS hl => W.objInit F.1 F.2.1 F.2.2.1 (F.2.2.2.1 _ hlink) (F.2.2.2.1 _ hinst) (F.2.2.2.1 _ hcode) rfl (by rw [F.2.2.2.2.1]; exact hl.1) rfl hdg hf (by show 2 * 0 + _ + 12 ≤ _; omega) (kk H locs ls hP hD hS hl)
end SWheap
section SWnew
variable {G : sw_E} {C : sw_C} {cc : ByteArray} {own : String} {Ts : List Cond} {k n : Nat} {ws : va_W} {lv : List (Nat × Value)} {pc : Nat} {rest : List Value}
theorem sw_new (F : sw_H G C cc own Ts) {Cn : String} {T : u_T} {N ci index : Nat} {ty : Nat → FieldType} {fs : List Value} {rm : Room} {k' n' : Nat} (hR : sw_R C = rm) (hin : ∀ w ∈ u_ws Cn T N, w ∈ Ts) (hty : ∀ z, z < N → parseFieldDescriptor (T z).2.2.1 = some (ty z)) (hcl : Cond.classLink own index Cn ∈ Ts) (hinst : Cond.instantiable Cn N ∈ Ts) (hini : Cond.initialized Cn ∈ Ts) (hc : vwCl[ci]? = some (Cn, T, N)) (hfs : ∀ j, j < N → defaultValue (ty j) = vp_V fs j) (hk : k + 1 = k') (hn : n + N = n') (hk2 : k' ≤ rm.cells) (hn2 : n' ≤ rm.slots) (hdg : decode cc pc = .ok (.new index, 3)) (kk : ∀ q : Nat, SW G C k' n' (ws ++ [(q, .inr (ci, fs))]) lv (pc + 3) (.ref q :: rest)) : SW G C k n ws lv pc rest := by
  subst hR; subst hk; subst hn
  exact fun H locs ls hP hD hS hl => va_new F.1 F.2.1 F.2.2.2.1 hin ty hty F.2.2.1 (F.2.2.2.1 _ hcl) (F.2.2.2.1 _ hinst) (F.2.2.2.1 _ hini) F.2.2.2.2.2.2.1 hP hD hS F.2.2.2.2.2.2.2.1 hc hfs hk2 hn2 hdg (fun q H1 hP1 hD1 hS1 => kk q H1 locs ls hP1 hD1 hS1 hl)
theorem sw_newI (F : sw_H G C cc own Ts) {z : Int32} {N : Nat} {rm : Room} {k' n' : Nat} (hR : sw_R C = rm) (harr : Cond.arrayClass .int ∈ Ts) (hz : ¬ z < 0) (hN : z.toNatClampNeg = N) (hb : N * componentBytes .int ≤ 536870912) (hk : k + 1 = k') (hn : n + N = n') (hk2 : k' ≤ rm.cells) (hn2 : n' ≤ rm.slots) (hdg : decode cc pc = .ok (.newarray .int, 2)) (kk : ∀ q : Nat, SW G C k' n' (ws ++ [(q, .inl (G.2.1.1, N, .inl (fun _ => 0)))]) lv (pc + 2) (.ref q :: rest)) : SW G C k n ws lv pc (.int z :: rest) := by
  subst hR; subst hk; subst hn
  intro H locs ls hP hD hS hl
  refine va_newa (atype := .int) (ty := .int) (a0 := (N, .inl (fun _ => 0))) F.1 F.2.1 (F.2.2.2.1 _ harr) rfl F.2.2.2.2.2.2.1 hP hD hS F.2.2.2.2.2.2.2.1 (fun cA => rfl) hz hN hb hk2 hn2 hdg (fun q cA H1 hK1 hP1 hD1 hS1 => ?_)
  have e1 : (sw_s C).vm.findClass "[I" = some cA := va_nm_int (hK1.2 2 (cA, .int) rfl).2
  have e2 : (sw_s C).vm.findClass "[I" = some G.2.1.1 := va_nm_int (F.2.2.2.2.2.2.1.2 0 (G.2.1.1, .int) rfl).2
  have e3 : cA = G.2.1.1 := Option.some.inj (e1.symm.trans e2)
  subst e3
  exact kk q H1 locs ls hP1 hD1 hS1 hl
theorem sw_newJ (F : sw_H G C cc own Ts) {z : Int32} {N : Nat} {rm : Room} {k' n' : Nat} (hR : sw_R C = rm) (harr : Cond.arrayClass .long ∈ Ts) (hz : ¬ z < 0) (hN : z.toNatClampNeg = N) (hb : N * componentBytes .long ≤ 536870912) (hk : k + 1 = k') (hn : n + N = n') (hk2 : k' ≤ rm.cells) (hn2 : n' ≤ rm.slots) (hdg : decode cc pc = .ok (.newarray .long, 2)) (kk : ∀ q : Nat, SW G C k' n' (ws ++ [(q, .inl (G.2.1.2, N, .inr (.inl (fun _ => 0))))]) lv (pc + 2) (.ref q :: rest)) : SW G C k n ws lv pc (.int z :: rest) := by
  subst hR; subst hk; subst hn
  intro H locs ls hP hD hS hl
  refine va_newa (atype := .long) (ty := .long) (a0 := (N, .inr (.inl (fun _ => 0)))) F.1 F.2.1 (F.2.2.2.1 _ harr) rfl F.2.2.2.2.2.2.1 hP hD hS F.2.2.2.2.2.2.2.1 (fun cA => rfl) hz hN hb hk2 hn2 hdg (fun q cA H1 hK1 hP1 hD1 hS1 => ?_)
  have e1 : (sw_s C).vm.findClass "[J" = some cA := va_nm_long (hK1.2 2 (cA, .long) rfl).2
  have e2 : (sw_s C).vm.findClass "[J" = some G.2.1.2 := va_nm_long (F.2.2.2.2.2.2.1.2 1 (G.2.1.2, .long) rfl).2
  have e3 : cA = G.2.1.2 := Option.some.inj (e1.symm.trans e2)
  subst e3
  exact kk q H1 locs ls hP1 hD1 hS1 hl
theorem sw_cpyI (F : sw_H G C cc own Ts) {a0 a n0 n1 : Nat} {f g : Nat → Int32} {index : Nat} {rm : Room} {ws' : va_W} (hR : sw_R C = rm) (hlink : Cond.methodLink own index arraycopyName ∈ Ts) (hnat : Cond.native arraycopyName ∈ Ts) (hstat : Cond.static arraycopyName ∈ Ts) (hini : Cond.initialized "java/lang/System" ∈ Ts) (q0 q1 : Nat) (ha0 : ws[q0]? = some (a0, .inl (G.2.1.1, n0, .inl f))) (ha1 : ws[q1]? = some (a, .inl (G.2.1.1, n1, .inl g))) {sp dp z : Int32} (h1 : ¬ sp < 0) (h2 : ¬ dp < 0) (h3 : ¬ z < 0) (h4 : sp.toNatClampNeg + z.toNatClampNeg ≤ n0) (h5 : dp.toNatClampNeg + z.toNatClampNeg ≤ n1) (hf : 1 ≤ rm.frames) (hlo : (rest.map fun v => v.category).sum + (nativeFrameWords "java/lang/System" "arraycopy" 5 + 11) ≤ rm.locals) (hdg : decode cc pc = .ok (.invokestatic index, 3)) (hws : ws.set q1 (a, .inl (G.2.1.1, n1, .inl (va_cpy f g sp.toNatClampNeg dp.toNatClampNeg z.toNatClampNeg))) = ws') (kk : SW G C k n ws' lv (pc + 3) rest) : SW G C k n ws lv pc (.int z :: .int dp :: .ref a :: .int sp :: .ref a0 :: rest) := by
  subst hR; subst hws
  exact fun H locs ls hP hD hS hl => va_copyi F.1 F.2.1 (F.2.2.2.2.1.trans hl.1.symm) F.2.2.1 (F.2.2.2.1 _ hlink) (F.2.2.2.1 _ hnat) (F.2.2.2.1 _ hstat) (F.2.2.2.1 _ hini) F.2.2.2.2.2.2.1 hP hD hS q0 q1 0 0 ha0 ha1 rfl rfl rfl h1 h2 h3 h4 h5 (fun _ _ => rfl) hf hlo hdg (fun H1 locs1 hP1 hD1 hS1 => kk H1 locs1 ls hP1 hD1 hS1 hl)
theorem sw_cpyJ (F : sw_H G C cc own Ts) {a0 a n0 n1 : Nat} {f g : Nat → Int64} {index : Nat} {rm : Room} {ws' : va_W} (hR : sw_R C = rm) (hlink : Cond.methodLink own index arraycopyName ∈ Ts) (hnat : Cond.native arraycopyName ∈ Ts) (hstat : Cond.static arraycopyName ∈ Ts) (hini : Cond.initialized "java/lang/System" ∈ Ts) (q0 q1 : Nat) (ha0 : ws[q0]? = some (a0, .inl (G.2.1.2, n0, .inr (.inl f)))) (ha1 : ws[q1]? = some (a, .inl (G.2.1.2, n1, .inr (.inl g)))) {sp dp z : Int32} (h1 : ¬ sp < 0) (h2 : ¬ dp < 0) (h3 : ¬ z < 0) (h4 : sp.toNatClampNeg + z.toNatClampNeg ≤ n0) (h5 : dp.toNatClampNeg + z.toNatClampNeg ≤ n1) (hf : 1 ≤ rm.frames) (hlo : (rest.map fun v => v.category).sum + (nativeFrameWords "java/lang/System" "arraycopy" 5 + 11) ≤ rm.locals) (hdg : decode cc pc = .ok (.invokestatic index, 3)) (hws : ws.set q1 (a, .inl (G.2.1.2, n1, .inr (.inl (va_cpy f g sp.toNatClampNeg dp.toNatClampNeg z.toNatClampNeg)))) = ws') (kk : SW G C k n ws' lv (pc + 3) rest) : SW G C k n ws lv pc (.int z :: .int dp :: .ref a :: .int sp :: .ref a0 :: rest) := by
  subst hR; subst hws
  exact fun H locs ls hP hD hS hl => va_copyl F.1 F.2.1 (F.2.2.2.2.1.trans hl.1.symm) F.2.2.1 (F.2.2.2.1 _ hlink) (F.2.2.2.1 _ hnat) (F.2.2.2.1 _ hstat) (F.2.2.2.1 _ hini) F.2.2.2.2.2.2.1 hP hD hS q0 q1 1 1 ha0 ha1 rfl rfl rfl h1 h2 h3 h4 h5 (fun _ _ => rfl) hf hlo hdg (fun H1 locs1 hP1 hD1 hS1 => kk H1 locs1 ls hP1 hD1 hS1 hl)
end SWnew
/-! contracts -/
def sw_Pre (G : sw_E) (av : List Value) (ws : va_W) (sz : Nat) : Array Value → State → Prop := va_Pc av (fun U => U.heap.size = sz ∧ va_P G.1 vwCl ws U.heap ∧ va_K G.1 vwCl (sw_TY G) U ∧ va_D (fun _ => True) ws ∧ sw_F G (va_A ws sz) U U.heap ∧ sw_N U)
theorem sw_blind {G : sw_E} {av : List Value} {ws : va_W} {sz : Nat} : FrameBlind (sw_Pre G av ws sz) := fun a U g mk q => by
  obtain ⟨q0, q1, qP, qK, qD, qF, qN⟩ := q
  exact ⟨q0, q1, qP, va_K.moved (u := U) (U := U.calling g mk a) (Vm.Alike.refl U.vm) qK, qD, sw_F.moved (u := U) (U := U.calling g mk a) (Vm.Alike.refl U.vm) qF, qN.call⟩
def sw_B (G : sw_E) (A : Nat → Prop) {S : Type} (wf : S → va_W) : S → State → Prop := fun u t => va_P G.1 vwCl (wf u) t.heap ∧ va_K G.1 vwCl (sw_TY G) t ∧ va_D A (wf u)
abbrev sw_Qt : Type := (Nat → Prop) → Array Value → State → Outcome → State → Prop
def sw_QI (G : sw_E) {S : Type} (post : Int32 → S → Prop) (wf : S → va_W) : sw_Qt := fun A => va_Qi post (sw_B G A wf) A
def sw_QL (G : sw_E) {S : Type} (post : Int64 → S → Prop) (wf : S → va_W) : sw_Qt := fun A => va_Ql post (sw_B G A wf) A
def sw_QV (G : sw_E) {S : Type} (post : S → Prop) (wf : S → va_W) : sw_Qt := fun A => va_Qv post (sw_B G A wf) A
def sw_QR (G : sw_E) {S : Type} (post : Nat → S → Prop) (wf : S → va_W) : sw_Qt := fun A => va_Qr (fun _ : S => True) (fun u a t => post a u ∧ sw_B G A wf u t) A
/-- a method's contract: arguments, cells, what comes of them -/
def sw_M (l : Launch) (G : sw_E) (y : MethodName) (wds : List Cond) (rm : Room) (av : List Value) (ws : va_W) (Qf : sw_Qt) (mc ms : Nat) : Prop := ∀ sz : Nat, Met l y wds rm (sw_Pre G av ws sz) (Qf (va_A ws sz)) mc ms (va_A ws sz)
/-- what a walk knows of its own method -/
def sw_T (C : sw_C) (l : Launch) (maxL : Nat) (rm : Room) (ret : Option FieldType) (nm : String) (Qf : sw_Qt) (mc ms : Nat) : Prop :=
  sw_n C = maxL ∧ sw_R C = rm ∧ sw_l C = l ∧ (sw_t C).sig.returnType = ret ∧ (sw_t C).name = nm ∧ sw_Q C = MQ (sw_b C) (Qf (sw_A C)) (sw_a C) (sw_s C) mc ms (sw_A C)
theorem sw_start {l : Launch} {G : sw_E} {y : MethodName} {wds ws' : List Cond} {rm : Room} {av : List Value} {ws : va_W} {Qf : sw_Qt} {mc ms : Nat} {cc : ByteArray} {maxL : Nat} {ret : Option FieldType} {lv : List (Nat × Value)} {own nm : String} (hy : plainName y.cls = true) (hw : wds = Cond.code y cc maxL ret :: ws') (ho : y.cls = own) (hnm : y.name = nm) (hav : lv_args 0 av = lv) (hn : (lg_sl av).length ≤ maxL)
    (body : ∀ C : sw_C, sw_H G C cc own wds → sw_T C l maxL rm ret nm Qf mc ms → SW G C 0 0 ws lv 0 []) : sw_M l G y wds rm av ws Qf mc ms := by
  intro sz
  refine Met.ofW (cc := cc) (maxL := maxL) (ret := ret) hy hw ?_
  intro p e s m args below meth c s₁ B hml hv
  obtain ⟨rfl, hsz, hP, hK, hD0, hF, hN⟩ := hv
  subst hsz
  have hD := hD0.self (sz := s.heap.size)
  have hl := lv_entry av (n := maxL) hn
  rw [hav] at hl
  rw [lg_entry_eq]
  exact body (p, l, e, rm, s, m, av.toArray, below, meth, c, va_A ws s.heap.size, maxL, MQ below (Qf (va_A ws s.heap.size)) av.toArray s mc ms (va_A ws s.heap.size))
    ⟨B.exec, B.bytes, by rw [← ho]; exact findClass_of_methodNamed B.named, atoms_spec (ws := wds) B.pre, hml, B.notSynchronized, hK, fun q h => Or.inr h, hF, hN⟩
    ⟨rfl, rfl, rfl, B.returns, by rw [← hnm]; exact (name_of_methodNamed B.named B.method).1, rfl⟩
    s.heap [] _ hP hD va_S.rf hl
section SWends
variable {G : sw_E} {C : sw_C} {cc : ByteArray} {own : String} {Ts : List Cond} {k n : Nat} {ws : va_W} {lv : List (Nat × Value)} {pc : Nat} {rest : List Value}
variable {l : Launch} {maxL : Nat} {rm : Room} {nm : String} {S : Type} {wf : S → va_W}
theorem sw_iret (F : sw_H G C cc own Ts) {post : Int32 → S → Prop} {ret : Option FieldType} {ty : FieldType} (T9 : sw_T C l maxL rm ret nm (sw_QI G post wf) k n) {v : Int32} (hty : ret = some ty) (hz : narrow ty (.int v) = .int v) (u : S) (hp : post v u) (hws : ws = wf u) (hdg : decode cc pc = .ok (.ireturn, 1)) : SW G C k n ws lv pc [.int v] := by
  intro H locs ls hP hD hS hl
  rw [T9.2.2.2.2.2]
  exact W.zret (ty := ty) F.1 F.2.1 (T9.2.2.2.1.trans hty) hz (fun t ht hW => ⟨⟨v, u, rfl, hp, by rw [ht, ← hws]; exact hP, va_K.moved hW.alike F.2.2.2.2.2.2.1, by rw [← hws]; exact hD⟩, hS.F ht⟩) hS.2.2 hdg F.2.2.2.2.2.1
theorem sw_lret (F : sw_H G C cc own Ts) {post : Int64 → S → Prop} (T9 : sw_T C l maxL rm (some .long) nm (sw_QL G post wf) k n) {v : Int64} (u : S) (hp : post v u) (hws : ws = wf u) (hdg : decode cc pc = .ok (.lreturn, 1)) : SW G C k n ws lv pc [.long v] := by
  intro H locs ls hP hD hS hl
  rw [T9.2.2.2.2.2]
  exact W.lret F.1 F.2.1 T9.2.2.2.1 (fun t ht hW => ⟨⟨v, u, rfl, hp, by rw [ht, ← hws]; exact hP, va_K.moved hW.alike F.2.2.2.2.2.2.1, by rw [← hws]; exact hD⟩, hS.F ht⟩) hS.2.2 hdg F.2.2.2.2.2.1
theorem sw_vret (F : sw_H G C cc own Ts) {post : S → Prop} (T9 : sw_T C l maxL rm none nm (sw_QV G post wf) k n) (u : S) (hp : post u) (hws : ws = wf u) (hdg : decode cc pc = .ok (.return_, 1)) : SW G C k n ws lv pc [] := by
  intro H locs ls hP hD hS hl
  rw [T9.2.2.2.2.2]
  exact W.vret F.1 F.2.1 T9.2.2.2.1 (fun t ht hW => ⟨⟨u, rfl, hp, by rw [ht, ← hws]; exact hP, va_K.moved hW.alike F.2.2.2.2.2.2.1, by rw [← hws]; exact hD⟩, hS.F ht⟩) hS.2.2 hdg F.2.2.2.2.2.1
theorem sw_aret (F : sw_H G C cc own Ts) {post : Nat → S → Prop} {cn : String} (T9 : sw_T C l maxL rm (some (.object cn)) nm (sw_QR G post wf) k n) {v : Nat} (u : S) (hp : post v u) (hws : ws = wf u) (hdg : decode cc pc = .ok (.areturn, 1)) : SW G C k n ws lv pc [.ref v] := by
  intro H locs ls hP hD hS hl
  rw [T9.2.2.2.2.2]
  exact W.aret F.1 F.2.1 T9.2.2.2.1 (Or.inl ⟨_, rfl⟩) (Or.inr ⟨v, rfl⟩) (fun t ht hW => ⟨⟨u, v, rfl, trivial, hp, by rw [ht, ← hws]; exact hP, va_K.moved hW.alike F.2.2.2.2.2.2.1, by rw [← hws]; exact hD⟩, hS.F ht⟩) hS.2.2 hdg F.2.2.2.2.2.1
end SWends
/-! calls -/
def sw_Run (G : sw_E) (C : sw_C) (k n : Nat) (ws : va_W) (lv : List (Nat × Value)) (pc : Nat) (st0 rest : List Value) (mc ms : Nat) (wc : va_W) (Qf : sw_Qt) (av : List Value) : Prop :=
  ∀ (H : Heap) (locs : List Loc) (ls : Array Slot), va_P G.1 vwCl ws H → va_D (sw_A C) ws → va_S (sw_A C) (sw_s C).heap H locs → lv_has ls (sw_n C) lv →
    va_Run (sw_p C) (sw_l C) (sw_e C) (sw_R C) (sw_s C) (sw_m C) (sw_a C) (sw_b C) (sw_t C) (sw_c C) H locs k n mc ms (F0 (sw_m C) pc ls st0) rest (Qf (va_A wc H.size) av.toArray) (va_A wc H.size)
theorem sw_subP {D : va_G} {cl : List vw_C} {ws ws' : va_W} {H : Heap} (h : va_P D cl ws H) (is : List Nat) (hs : is.map (fun i => ws[i]?) = ws'.map some) : va_P D cl ws' H := by
  intro j q hq
  have h1 : (is.map (fun i => ws[i]?))[j]? = some (some q) := by rw [hs, List.getElem?_map, hq]; rfl
  rw [List.getElem?_map] at h1
  cases hi : is[j]? with
  | none => rw [hi] at h1; cases h1
  | some i => rw [hi] at h1; exact h i q (Option.some.inj h1)
section SWcalls
variable {G : sw_E} {C : sw_C} {cc : ByteArray} {own : String} {Ts : List Cond} {k n : Nat} {ws : va_W} {lv : List (Nat × Value)} {pc : Nat} {rest : List Value}
variable {l : Launch} {R rm : Room} {y : MethodName} {bytes : ByteArray} {maxL mc ms index : Nat} {ret : Option FieldType} {wds ws' : List Cond} {as : List Value} {wc : va_W} {Qf : sw_Qt} {na : Nat} {st0 : List Value}
theorem sw_pre (F : sw_H G C cc own Ts) {av : List Value} {H : Heap} {locs : List Loc} (hP : va_P G.1 vwCl ws H) (hD : va_D (sw_A C) ws) (hS : va_S (sw_A C) (sw_s C).heap H locs) (isC : List Nat) (hC : isC.map (fun i => ws[i]?) = wc.map some) (hn : va_nd isC = true) :
    FrameBlind (sw_Pre G av wc H.size) ∧ ∀ U : State, U.heap = H → (sw_s C).WarmedH U.vm → sw_Pre G av wc H.size av.toArray U := by
  refine ⟨sw_blind, fun U hU hW => ⟨rfl, by rw [hU], by rw [hU]; exact sw_subP hP isC hC, va_K.moved hW.alike F.2.2.2.2.2.2.1, (hD.sub isC hn hC).weaken (fun _ _ _ _ => trivial), ?_, F.2.2.2.2.2.2.2.2.2.warm hW⟩⟩
  rw [hU]
  exact ((F.2.2.2.2.2.2.2.2.1.kept hS.2.1).narrow (va_free hD hS F.2.2.2.2.2.2.2.1 isC hC)).moved hW.alike
theorem sw_runV (F : sw_H G C cc own Ts) {Cn : String} {b ci q0 : Nat} {q : vw_C} {fs : List Value} (hR : sw_R C = R) (hl9 : sw_l C = l) (M : sw_M l G y wds rm (.ref b :: as) wc Qf mc ms) (isC : List Nat) (hC : isC.map (fun i => ws[i]?) = wc.map some) (hnd : va_nd isC = true) (hT : GoodIn Ts (wsV own index Cn y wds)) (hw : wds = Cond.code y bytes maxL ret :: ws') (hrc : rm.cells = mc) (hrs : rm.slots = ms)
    (hd : y.cls = Cn ∧ y.cls ≠ "java/lang/invoke/MethodHandle" ∧ y.cls ≠ "java/lang/invoke/VarHandle" ∧ (parseMethodDescriptor y.desc).map (fun d => d.parameters.length) = some na) (hRm : rm.frames + 1 ≤ R.frames ∧ 8 + (maxL + 11) + rm.locals ≤ R.locals) (hc : vwCl[ci]? = some q) (hq : wc[q0]? = some (b, .inr (ci, fs))) (hCn : q.1 = Cn) (hna : as.length = na) (hst : st0 = as.reverse ++ .ref b :: rest) (h8 : (rest.map fun v => v.category).sum ≤ 8) (hdg : decode cc pc = .ok (.invokevirtual index, 3)) (hk : k + mc ≤ R.cells) (hn : n + ms ≤ R.slots) :
    sw_Run G C k n ws lv pc st0 rest mc ms wc Qf (.ref b :: as) := by
  subst hR; subst hl9; subst hst; subst hCn
  intro H locs ls hP hD hS hl
  exact va_runV (As := as) (rest := rest) ⟨F.1, F.2.1, F.2.2.2.2.1, F.2.2.1, F.2.2.2.1⟩ (M H.size) (cwV na F.2.2.2.1 hT hw hrc hrs hd hRm) ⟨sw_blind, va_recv F.2.2.2.2.2.2.1 (sw_subP hP isC hC) hc hq, (sw_pre F hP hD hS isC hC hnd).2⟩ rfl hna hl.1 rfl (lv_room h8) hdg ⟨hk, hn⟩
theorem sw_runS (F : sw_H G C cc own Ts) (hR : sw_R C = R) (hl9 : sw_l C = l) (M : sw_M l G y wds rm as wc Qf mc ms) (isC : List Nat) (hC : isC.map (fun i => ws[i]?) = wc.map some) (hnd : va_nd isC = true) (hT : GoodIn Ts (va_wsS own index y wds)) (hw : wds = Cond.code y bytes maxL ret :: ws') (hrc : rm.cells = mc) (hrs : rm.slots = ms)
    (hd : y.cls ≠ "java/lang/invoke/MethodHandle" ∧ y.cls ≠ "java/lang/invoke/VarHandle" ∧ (parseMethodDescriptor y.desc).map (fun d => d.parameters.length) = some na) (hRm : rm.frames + 1 ≤ R.frames ∧ 8 + (maxL + 11) + rm.locals ≤ R.locals) (hna : as.length = na) (hst : st0 = as.reverse ++ rest) (h8 : (rest.map fun v => v.category).sum ≤ 8) (hdg : decode cc pc = .ok (.invokestatic index, 3)) (hk : k + mc ≤ R.cells) (hn : n + ms ≤ R.slots) :
    sw_Run G C k n ws lv pc st0 rest mc ms wc Qf as := by
  subst hR; subst hl9; subst hst
  intro H locs ls hP hD hS hl
  exact va_runS (As := as) (rest := rest) ⟨F.1, F.2.1, F.2.2.2.2.1, F.2.2.1, F.2.2.2.1⟩ (M H.size) (va_cwS na F.2.2.2.1 hT hw hrc hrs hd hRm) (sw_pre F hP hD hS isC hC hnd) rfl hna hl.1 rfl (lv_room h8) hdg ⟨hk, hn⟩
theorem sw_runI (F : sw_H G C cc own Ts) {b : Nat} (hR : sw_R C = R) (hl9 : sw_l C = l) (M : sw_M l G y wds rm (.ref b :: as) wc Qf mc ms) (isC : List Nat) (hC : isC.map (fun i => ws[i]?) = wc.map some) (hnd : va_nd isC = true) (hT : GoodIn Ts wds) (hw : wds = Cond.code y bytes maxL none :: ws') (hrc : rm.cells = mc) (hrs : rm.slots = ms) (hini : Cond.initialized y.cls ∈ Ts) (hlk : Cond.methodLink own index y ∈ Ts) (hins : Cond.instanceMethod y ∈ Ts) (hyn : y.name = "<init>")
    (hd : y.cls ≠ "java/lang/invoke/MethodHandle" ∧ y.cls ≠ "java/lang/invoke/VarHandle" ∧ (parseMethodDescriptor y.desc).map (fun d => d.parameters.length) = some na) (hRm : rm.frames + 1 ≤ R.frames ∧ 8 + (maxL + 11) + rm.locals ≤ R.locals) (hna : as.length = na) (hst : st0 = as.reverse ++ .ref b :: rest) (h8 : (rest.map fun v => v.category).sum ≤ 8) (hdg : decode cc pc = .ok (.invokespecial index, 3)) (hk : k + mc ≤ R.cells) (hn : n + ms ≤ R.slots) :
    sw_Run G C k n ws lv pc st0 rest mc ms wc Qf (.ref b :: as) := by
  subst hR; subst hl9; subst hst
  intro H locs ls hP hD hS hl
  exact va_runI (As := as) (rest := rest) ⟨F.1, F.2.1, F.2.2.2.2.1, F.2.2.1, F.2.2.2.1⟩ (M H.size) (cwI na F.2.2.2.1 hT hw hrc hrs (F.2.2.2.1 _ hini) (F.2.2.2.1 _ hlk) (F.2.2.2.1 _ hins) hyn hd hRm) (sw_pre F hP hD hS isC hC hnd) rfl hna hl.1 rfl (lv_room h8) hdg ⟨hk, hn⟩
/-- a private static of a nest mate (hashed) -/
theorem sw_runSN (F : sw_H G C cc own Ts) (hR : sw_R C = R) (hl9 : sw_l C = l) (M : sw_M l G y wds rm as wc Qf mc ms) (isC : List Nat) (hC : isC.map (fun i => ws[i]?) = wc.map some) (hnd : va_nd isC = true) (hT : GoodIn Ts wds) (hw : wds = Cond.code y bytes maxL ret :: ws') (hrc : rm.cells = mc) (hrs : rm.slots = ms) (hini : Cond.initialized y.cls ∈ Ts) (hlk : (own, index, y) ∈ sw_nestM) (hstt : Cond.static y ∈ Ts)
    (hd : y.cls ≠ "java/lang/invoke/MethodHandle" ∧ y.cls ≠ "java/lang/invoke/VarHandle" ∧ (parseMethodDescriptor y.desc).map (fun d => d.parameters.length) = some na) (hRm : rm.frames + 1 ≤ R.frames ∧ 8 + (maxL + 11) + rm.locals ≤ R.locals) (hna : as.length = na) (hst : st0 = as.reverse ++ rest) (h8 : (rest.map fun v => v.category).sum ≤ 8) (hdg : decode cc pc = .ok (.invokestatic index, 3)) (hk : k + mc ≤ R.cells) (hn : n + ms ≤ R.slots) :
    sw_Run G C k n ws lv pc st0 rest mc ms wc Qf as := by
  subst hR; subst hl9; subst hst
  intro H locs ls hP hD hS hl
  exact va_runSN (As := as) (rest := rest) ⟨F.1, F.2.1, F.2.2.2.2.1, F.2.2.1, F.2.2.2.1⟩ (M H.size) ⟨va_cnB na F.2.2.2.1 hT hw hrc hrs (F.2.2.2.2.2.2.2.2.2.1 _ hlk) (F.2.2.2.1 _ hini) hd hRm, F.2.2.2.1 _ hstt, trivial⟩ (sw_pre F hP hD hS isC hC hnd) rfl hna hl.1 rfl (lv_room h8) hdg ⟨hk, hn⟩
/-- a private constructor of a nest mate -/
theorem sw_runIN (F : sw_H G C cc own Ts) {b : Nat} (hR : sw_R C = R) (hl9 : sw_l C = l) (M : sw_M l G y wds rm (.ref b :: as) wc Qf mc ms) (isC : List Nat) (hC : isC.map (fun i => ws[i]?) = wc.map some) (hnd : va_nd isC = true) (hT : GoodIn Ts wds) (hw : wds = Cond.code y bytes maxL none :: ws') (hrc : rm.cells = mc) (hrs : rm.slots = ms) (hini : Cond.initialized y.cls ∈ Ts) (hlk : (own, index, y) ∈ sw_nestM) (hins : Cond.instanceMethod y ∈ Ts) (hyn : y.name = "<init>")
    (hd : y.cls ≠ "java/lang/invoke/MethodHandle" ∧ y.cls ≠ "java/lang/invoke/VarHandle" ∧ (parseMethodDescriptor y.desc).map (fun d => d.parameters.length) = some na) (hRm : rm.frames + 1 ≤ R.frames ∧ 8 + (maxL + 11) + rm.locals ≤ R.locals) (hna : as.length = na) (hst : st0 = as.reverse ++ .ref b :: rest) (h8 : (rest.map fun v => v.category).sum ≤ 8) (hdg : decode cc pc = .ok (.invokespecial index, 3)) (hk : k + mc ≤ R.cells) (hn : n + ms ≤ R.slots) :
    sw_Run G C k n ws lv pc st0 rest mc ms wc Qf (.ref b :: as) := by
  subst hR; subst hl9; subst hst
  intro H locs ls hP hD hS hl
  exact va_runIN (As := as) (rest := rest) ⟨F.1, F.2.1, F.2.2.2.2.1, F.2.2.1, F.2.2.2.1⟩ (M H.size) ⟨va_cnB na F.2.2.2.1 hT hw hrc hrs (F.2.2.2.2.2.2.2.2.2.1 _ hlk) (F.2.2.2.1 _ hini) hd hRm, hyn, F.2.2.2.1 _ hins⟩ (sw_pre F hP hD hS isC hC hnd) rfl hna hl.1 rfl (lv_room h8) hdg ⟨hk, hn⟩
variable {S : Type} {wf : S → va_W} {wr : va_W} {av : List Value} {k' n' : Nat}
theorem sw_calli (F : sw_H G C cc own Ts) {post : Int32 → S → Prop} (hrun : sw_Run G C k n ws lv pc st0 rest mc ms wc (sw_QI G post wf) av) (isC isR : List Nat) (hC : isC.map (fun i => ws[i]?) = wc.map some) (hRr : isR.map (fun i => ws[i]?) = wr.map some) (hnR : va_nd isR = true) (hdis : ∀ i ∈ isR, i ∉ isC) (hk : k + mc = k') (hn : n + ms = n') (kk : ∀ (r : Int32) (u : S), post r u → SW G C k' n' (wr ++ wf u) lv (pc + 3) (.int r :: rest)) : SW G C k n ws lv pc st0 := by
  subst hk; subst hn
  intro H locs ls hP hD hS hl
  have hFc := va_free hD hS F.2.2.2.2.2.2.2.1 isC hC
  refine va_calli (hrun H locs ls hP hD hS hl) hS (fun q _ h => hFc q h) hFc (fun r u t H1 locs1 ht hvm hw hB hz1 hk1 hS1 => ?_)
  obtain ⟨hP1, hK1, hD1⟩ := hB
  rw [ht] at hP1
  obtain ⟨hP2, hD2⟩ := va_join hP hD isC isR hC hRr hnR hdis hk1 hFc hP1 hD1
  exact kk r u hw H1 locs1 ls hP2 hD2 hS1 hl
theorem sw_calll (F : sw_H G C cc own Ts) {post : Int64 → S → Prop} (hrun : sw_Run G C k n ws lv pc st0 rest mc ms wc (sw_QL G post wf) av) (isC isR : List Nat) (hC : isC.map (fun i => ws[i]?) = wc.map some) (hRr : isR.map (fun i => ws[i]?) = wr.map some) (hnR : va_nd isR = true) (hdis : ∀ i ∈ isR, i ∉ isC) (hk : k + mc = k') (hn : n + ms = n') (kk : ∀ (r : Int64) (u : S), post r u → SW G C k' n' (wr ++ wf u) lv (pc + 3) (.long r :: rest)) : SW G C k n ws lv pc st0 := by
  subst hk; subst hn
  intro H locs ls hP hD hS hl
  have hFc := va_free hD hS F.2.2.2.2.2.2.2.1 isC hC
  refine va_calll (hrun H locs ls hP hD hS hl) hS (fun q _ h => hFc q h) hFc (fun r u t H1 locs1 ht hvm hw hB hz1 hk1 hS1 => ?_)
  obtain ⟨hP1, hK1, hD1⟩ := hB
  rw [ht] at hP1
  obtain ⟨hP2, hD2⟩ := va_join hP hD isC isR hC hRr hnR hdis hk1 hFc hP1 hD1
  exact kk r u hw H1 locs1 ls hP2 hD2 hS1 hl
theorem sw_callv (F : sw_H G C cc own Ts) {post : S → Prop} (hrun : sw_Run G C k n ws lv pc st0 rest mc ms wc (sw_QV G post wf) av) (isC isR : List Nat) (hC : isC.map (fun i => ws[i]?) = wc.map some) (hRr : isR.map (fun i => ws[i]?) = wr.map some) (hnR : va_nd isR = true) (hdis : ∀ i ∈ isR, i ∉ isC) (hk : k + mc = k') (hn : n + ms = n') (kk : ∀ (u : S), post u → SW G C k' n' (wr ++ wf u) lv (pc + 3) rest) : SW G C k n ws lv pc st0 := by
  subst hk; subst hn
  intro H locs ls hP hD hS hl
  have hFc := va_free hD hS F.2.2.2.2.2.2.2.1 isC hC
  refine va_callv (hrun H locs ls hP hD hS hl) hS (fun q _ h => hFc q h) hFc (fun u t H1 locs1 ht hvm hw hB hz1 hk1 hS1 => ?_)
  obtain ⟨hP1, hK1, hD1⟩ := hB
  rw [ht] at hP1
  obtain ⟨hP2, hD2⟩ := va_join hP hD isC isR hC hRr hnR hdis hk1 hFc hP1 hD1
  exact kk u hw H1 locs1 ls hP2 hD2 hS1 hl
theorem sw_callr (F : sw_H G C cc own Ts) {post : Nat → S → Prop} (hrun : sw_Run G C k n ws lv pc st0 rest mc ms wc (sw_QR G post wf) av) (isC isR : List Nat) (hC : isC.map (fun i => ws[i]?) = wc.map some) (hRr : isR.map (fun i => ws[i]?) = wr.map some) (hnR : va_nd isR = true) (hdis : ∀ i ∈ isR, i ∉ isC) (hk : k + mc = k') (hn : n + ms = n') (kk : ∀ (r : Nat) (u : S), post r u → SW G C k' n' (wr ++ wf u) lv (pc + 3) (.ref r :: rest)) : SW G C k n ws lv pc st0 := by
  subst hk; subst hn
  intro H locs ls hP hD hS hl
  have hFc := va_free hD hS F.2.2.2.2.2.2.2.1 isC hC
  refine va_callr (hrun H locs ls hP hD hS hl) hS (fun q _ h => hFc q h) hFc (fun u ra t H1 locs1 ht hvm _ hB hz1 hk1 hS1 => ?_)
  obtain ⟨hp, hP1, hK1, hD1⟩ := hB
  rw [ht] at hP1
  obtain ⟨hP2, hD2⟩ := va_join hP hD isC isR hC hRr hnR hdis hk1 hFc hP1 hD1
  exact kk ra u hp H1 locs1 ls hP2 hD2 hS1 hl
end SWcalls
