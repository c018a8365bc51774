/-! THE LAYER: one judgement SW for world, locals and stack; what every contract takes as given; contracts; calls -/
abbrev sw_E : Type := va_G × (ClassId × ClassId) × (Nat × Nat)
abbrev sw_TY (G : sw_E) : List (ClassId × FieldType) := [(G.2.1.1, .int), (G.2.1.2, .long)]
def sw_dt : Nat → Value := fun j => .int (match j with | 0 => -200 | 1 => 0 | 2 => 200 | 3 => 400 | 4 => 600 | _ => 800)
def sw_ft : Nat → Value := fun j => .int (match j with | 0 => 0 | 1 => 1000 | 2 => 3000 | 3 => 10000 | _ => 30000)
def sw_nestM : List (String × Nat × MethodName) := [(RX9, 9, yX6_init), (RX6, 35, yX3_init), (RX6, 42, yX1_init), (RX6, 49, yX0_init), (RX6, 56, yX5_init), (RX5, 9, yX7_init), (RX6, 63, yX2_init), (RX6, 284, yX9_hashed), (RX8, 42, yX9_hashed), (RX3, 74, yX9_hashed), (RX4, 36, yX9_hashed)]
def sw_nestF : List (Nat × String) := [(45, "DENSITY_TEMPERATURES"), (65, "FACTOR_FLOWS")]
/-- the words of a nest: no good words, so they go from contract to contract as a premise -/
def sw_N (U : State) : Prop := (∀ q ∈ sw_nestM, va_Nw (.methodLinkNest q.1 q.2.1 q.2.2 RX9) U) ∧ (∀ q ∈ sw_nestF, va_Nw (.fieldLinkNest RX3 q.1 RX9 q.2 "[I" RX9) U)
theorem sw_N.warm {s U : State} (hW : s.WarmedH U.vm) (h : sw_N s) : sw_N U := ⟨fun q hq => (h.1 q hq).warmM hW, fun q hq => (h.2 q hq).warmF hW⟩
theorem sw_N.call {U : State} {g : JFrame} {mk : MethodId} {a : Array Value} (h : sw_N U) : sw_N (U.calling g mk a) := ⟨fun q hq => va_Nw.same rfl rfl (h.1 q hq), fun q hq => va_Nw.same rfl rfl (h.2 q hq)⟩
/-- the statics that the class reads, and those that a throw reads: nobody writes them -/
def sw_F (G : sw_E) (A : Nat → Prop) (U : State) (H : Heap) : Prop :=
  va_Z RX9 "DENSITY_TEMPERATURES" "[I" (.ref G.2.2.1) A U H ∧ va_Z RX9 "FACTOR_FLOWS" "[I" (.ref G.2.2.2) A U H ∧ va_T .int G.2.2.1 6 sw_dt A U H ∧ va_T .int G.2.2.2 5 sw_ft A U H ∧
  vx_Zq Bundle.tN "UNASSIGNED_STACK" Bundle.steD A U H ∧ vx_Zq Bundle.tN "SUPPRESSED_SENTINEL" Bundle.listD A U H
theorem sw_F.moved {G : sw_E} {A : Nat → Prop} {u U : State} {H : Heap} (hvm : u.vm.Alike U.vm) (h : sw_F G A u H) : sw_F G A U H :=
  ⟨h.1.moved hvm, h.2.1.moved hvm, h.2.2.1.moved hvm, h.2.2.2.1.moved hvm, h.2.2.2.2.1.moved hvm, h.2.2.2.2.2.moved hvm⟩
theorem sw_F.kept {G : sw_E} {A : Nat → Prop} {U : State} {H H1 : Heap} (h : sw_F G A U H) (hq : ∀ a : Nat, a < H.size → ¬ A a → H1[a]? = H[a]?) : sw_F G A U H1 :=
  ⟨h.1.kept hq, h.2.1.kept hq, h.2.2.1.kept hq, h.2.2.2.1.kept hq, h.2.2.2.2.1.kept hq, h.2.2.2.2.2.kept hq⟩
theorem sw_F.narrow {G : sw_E} {A B : Nat → Prop} {U : State} {H : Heap} (h : sw_F G A U H) (hAB : ∀ q, B q → A q) : sw_F G B U H :=
  ⟨h.1.narrow hAB, h.2.1.narrow hAB, h.2.2.1.narrow hAB, h.2.2.2.1.narrow hAB, h.2.2.2.2.1.narrow hAB, h.2.2.2.2.2.narrow hAB⟩
/-- where a walk stands: program, launch, environment, room, start, method, arguments, frames below, its code, what it may write, its locals' number, its goal -/
abbrev sw_C : Type := Program × Launch × Env × Room × State × MethodId × Array Value × List Frame × Method × Code × (Nat → Prop) × Nat × (State → Prop)
abbrev sw_p (C : sw_C) : Program := C.1
abbrev sw_l (C : sw_C) : Launch := C.2.1
abbrev sw_e (C : sw_C) : Env := C.2.2.1
abbrev sw_R (C : sw_C) : Room := C.2.2.2.1
abbrev sw_s (C : sw_C) : State := C.2.2.2.2.1
abbrev sw_m (C : sw_C) : MethodId := C.2.2.2.2.2.1
abbrev sw_a (C : sw_C) : Array Value := C.2.2.2.2.2.2.1
abbrev sw_b (C : sw_C) : List Frame := C.2.2.2.2.2.2.2.1
abbrev sw_t (C : sw_C) : Method := C.2.2.2.2.2.2.2.2.1
abbrev sw_c (C : sw_C) : Code := C.2.2.2.2.2.2.2.2.2.1
abbrev sw_A (C : sw_C) : Nat → Prop := C.2.2.2.2.2.2.2.2.2.2.1
abbrev sw_n (C : sw_C) : Nat := C.2.2.2.2.2.2.2.2.2.2.2.1
abbrev sw_Q (C : sw_C) : State → Prop := C.2.2.2.2.2.2.2.2.2.2.2.2
def SW (G : sw_E) (C : sw_C) (k n : Nat) (ws : va_W) (lv : List (Nat × Value)) (pc : Nat) (st : List Value) : Prop :=
  ∀ (H : Heap) (locs : List Loc) (ls : Array Slot), va_P G.1 vwCl ws H → va_D (sw_A C) ws → va_S (sw_A C) (sw_s C).heap H locs → lv_has ls (sw_n C) lv →
    W (sw_p C) (sw_l C) (sw_e C) (sw_R C) (sw_s C) (sw_m C) (sw_a C) (sw_b C) (sw_t C) (sw_c C) H locs k n (sw_Q C) (F0 (sw_m C) pc ls st)
/-- what holds all along a walk -/
def sw_H (G : sw_E) (C : sw_C) (cc : ByteArray) (own : String) (Ts : List Cond) : Prop :=
  (sw_p C).tables.exec = Jvm.exec ∧ (sw_c C).code = cc ∧ (sw_s C).vm.findClass own = some (sw_m C).cls ∧ (∀ w ∈ Ts, w.before (sw_a C) (sw_s C) = true) ∧ (sw_c C).maxLocals = sw_n C ∧ (sw_t C).locks = false ∧
  va_K G.1 vwCl (sw_TY G) (sw_s C) ∧ (∀ q : Nat, (sw_s C).heap.size ≤ q → sw_A C q) ∧ sw_F G (sw_A C) (sw_s C) (sw_s C).heap ∧ sw_N (sw_s C)
section SWrows
variable {G : sw_E} {C : sw_C} {cc : ByteArray} {own : String} {Ts : List Cond} {k n : Nat} {ws : va_W} {lv : List (Nat × Value)} {pc : Nat} {rest : List Value}
theorem sw_iconst (F : sw_H G C cc own Ts) {z : Int} {v : Int32} (hdg : decode cc pc = .ok (.iconst z, 1)) (hv : Int32.ofInt z = v) (kk : SW G C k n ws lv (pc + 1) (.int v :: rest)) : SW G C k n ws lv pc rest :=
  fun H locs ls hP hD hS hl => lv_iconst F.1 F.2.1 hdg hv (kk H locs ls hP hD hS hl)
theorem sw_bipush (F : sw_H G C cc own Ts) {z : Int} {v : Int32} (hdg : decode cc pc = .ok (.bipush z, 2)) (hv : (Int8.ofInt z).toInt32 = v) (kk : SW G C k n ws lv (pc + 2) (.int v :: rest)) : SW G C k n ws lv pc rest :=
  fun H locs ls hP hD hS hl => lv_bipush F.1 F.2.1 hdg hv (kk H locs ls hP hD hS hl)
theorem sw_sipush (F : sw_H G C cc own Ts) {z : Int} {v : Int32} (hdg : decode cc pc = .ok (.sipush z, 3)) (hv : (Int16.ofInt z).toInt32 = v) (kk : SW G C k n ws lv (pc + 3) (.int v :: rest)) : SW G C k n ws lv pc rest :=
  fun H locs ls hP hD hS hl => lv_sipush F.1 F.2.1 hdg hv (kk H locs ls hP hD hS hl)
theorem sw_lconst (F : sw_H G C cc own Ts) {z : Fin 2} {v : Int64} (hdg : decode cc pc = .ok (.lconst z, 1)) (hv : Int64.ofNat (z : Nat) = v) (kk : SW G C k n ws lv (pc + 1) (.long v :: rest)) : SW G C k n ws lv pc rest :=
  fun H locs ls hP hD hS hl => lv_lconst F.1 F.2.1 hdg hv (kk H locs ls hP hD hS hl)
theorem sw_ldc (F : sw_H G C cc own Ts) {index : Nat} {v : Int32} (hm : Cond.constant own index v ∈ Ts) (hdg : decode cc pc = .ok (.ldc index, 2)) (kk : SW G C k n ws lv (pc + 2) (.int v :: rest)) : SW G C k n ws lv pc rest :=
  fun H locs ls hP hD hS hl => lv_ldc F.1 F.2.1 F.2.2.1 (F.2.2.2.1 _ hm) hdg (kk H locs ls hP hD hS hl)
theorem sw_ldc2 (F : sw_H G C cc own Ts) {index : Nat} {v : Int64} (hm : Cond.constantLong own index v ∈ Ts) (hdg : decode cc pc = .ok (.ldc2_w index, 3)) (kk : SW G C k n ws lv (pc + 3) (.long v :: rest)) : SW G C k n ws lv pc rest :=
  fun H locs ls hP hD hS hl => lv_ldc2 F.1 F.2.1 F.2.2.1 (F.2.2.2.1 _ hm) hdg (kk H locs ls hP hD hS hl)
theorem sw_iload_n (F : sw_H G C cc own Ts) {j : Fin 4} {i : Nat} {x : Int32} (hdg : decode cc pc = .ok (.iload_n j, 1)) (hi : (j : Nat) = i) (q : Nat) (hq : lv[q]? = some (i, .int x)) (kk : SW G C k n ws lv (pc + 1) (.int x :: rest)) : SW G C k n ws lv pc rest :=
  fun H locs ls hP hD hS hl => lv_iload_n F.1 F.2.1 hdg hi (lv_at hl q hq) (kk H locs ls hP hD hS hl)
theorem sw_iload (F : sw_H G C cc own Ts) {i : Nat} {x : Int32} (hdg : decode cc pc = .ok (.iload i, 2)) (q : Nat) (hq : lv[q]? = some (i, .int x)) (kk : SW G C k n ws lv (pc + 2) (.int x :: rest)) : SW G C k n ws lv pc rest :=
  fun H locs ls hP hD hS hl => lv_iload F.1 F.2.1 hdg (lv_at hl q hq) (kk H locs ls hP hD hS hl)
theorem sw_lload_n (F : sw_H G C cc own Ts) {j : Fin 4} {i : Nat} {x : Int64} (hdg : decode cc pc = .ok (.lload_n j, 1)) (hi : (j : Nat) = i) (q : Nat) (hq : lv[q]? = some (i, .long x)) (kk : SW G C k n ws lv (pc + 1) (.long x :: rest)) : SW G C k n ws lv pc rest :=
  fun H locs ls hP hD hS hl => lv_lload_n F.1 F.2.1 hdg hi (lv_at hl q hq) (kk H locs ls hP hD hS hl)
theorem sw_lload (F : sw_H G C cc own Ts) {i : Nat} {x : Int64} (hdg : decode cc pc = .ok (.lload i, 2)) (q : Nat) (hq : lv[q]? = some (i, .long x)) (kk : SW G C k n ws lv (pc + 2) (.long x :: rest)) : SW G C k n ws lv pc rest :=
  fun H locs ls hP hD hS hl => lv_lload F.1 F.2.1 hdg (lv_at hl q hq) (kk H locs ls hP hD hS hl)
theorem sw_aload_n (F : sw_H G C cc own Ts) {j : Fin 4} {i : Nat} {x : Nat} (hdg : decode cc pc = .ok (.aload_n j, 1)) (hi : (j : Nat) = i) (q : Nat) (hq : lv[q]? = some (i, .ref x)) (kk : SW G C k n ws lv (pc + 1) (.ref x :: rest)) : SW G C k n ws lv pc rest :=
  fun H locs ls hP hD hS hl => lv_aload_n F.1 F.2.1 hdg hi (lv_at hl q hq) (kk H locs ls hP hD hS hl)
theorem sw_aload (F : sw_H G C cc own Ts) {i : Nat} {x : Nat} (hdg : decode cc pc = .ok (.aload i, 2)) (q : Nat) (hq : lv[q]? = some (i, .ref x)) (kk : SW G C k n ws lv (pc + 2) (.ref x :: rest)) : SW G C k n ws lv pc rest :=
  fun H locs ls hP hD hS hl => lv_aload F.1 F.2.1 hdg (lv_at hl q hq) (kk H locs ls hP hD hS hl)
theorem sw_istore_n (F : sw_H G C cc own Ts) {nL : Nat} (hnL : sw_n C = nL) {j : Fin 4} {i : Nat} {x : Int32} {lv' : List (Nat × Value)} (hdg : decode cc pc = .ok (.istore_n j, 1)) (hi : (j : Nat) = i) (hn : i < nL) (hl' : (i, Value.int x) :: lv.filter (fun q => !(q.1 == i) && !(q.1 + 1 == i && q.2.category == 2)) = lv') (kk : SW G C k n ws lv' (pc + 1) rest) : SW G C k n ws lv pc (.int x :: rest) :=
  fun H locs ls hP hD hS hl => lv_istore_n F.1 F.2.1 hdg hi hl (by rw [hnL]; exact hn) hl' (fun ls' h' => kk H locs ls' hP hD hS h')
theorem sw_istore (F : sw_H G C cc own Ts) {nL : Nat} (hnL : sw_n C = nL) {i : Nat} {x : Int32} {lv' : List (Nat × Value)} (hdg : decode cc pc = .ok (.istore i, 2)) (hn : i < nL) (hl' : (i, Value.int x) :: lv.filter (fun q => !(q.1 == i) && !(q.1 + 1 == i && q.2.category == 2)) = lv') (kk : SW G C k n ws lv' (pc + 2) rest) : SW G C k n ws lv pc (.int x :: rest) :=
  fun H locs ls hP hD hS hl => lv_istore F.1 F.2.1 hdg hl (by rw [hnL]; exact hn) hl' (fun ls' h' => kk H locs ls' hP hD hS h')
theorem sw_lstore_n (F : sw_H G C cc own Ts) {nL : Nat} (hnL : sw_n C = nL) {j : Fin 4} {i : Nat} {x : Int64} {lv' : List (Nat × Value)} (hdg : decode cc pc = .ok (.lstore_n j, 1)) (hi : (j : Nat) = i) (hn : i + 1 < nL) (hl' : (i, Value.long x) :: lv.filter (fun q => !(q.1 == i) && (!(q.1 == i + 1) && !(q.1 + 1 == i && q.2.category == 2))) = lv') (kk : SW G C k n ws lv' (pc + 1) rest) : SW G C k n ws lv pc (.long x :: rest) :=
  fun H locs ls hP hD hS hl => lv_lstore_n F.1 F.2.1 hdg hi hl (by rw [hnL]; exact hn) hl' (fun ls' h' => kk H locs ls' hP hD hS h')
theorem sw_lstore (F : sw_H G C cc own Ts) {nL : Nat} (hnL : sw_n C = nL) {i : Nat} {x : Int64} {lv' : List (Nat × Value)} (hdg : decode cc pc = .ok (.lstore i, 2)) (hn : i + 1 < nL) (hl' : (i, Value.long x) :: lv.filter (fun q => !(q.1 == i) && (!(q.1 == i + 1) && !(q.1 + 1 == i && q.2.category == 2))) = lv') (kk : SW G C k n ws lv' (pc + 2) rest) : SW G C k n ws lv pc (.long x :: rest) :=
  fun H locs ls hP hD hS hl => lv_lstore F.1 F.2.1 hdg hl (by rw [hnL]; exact hn) hl' (fun ls' h' => kk H locs ls' hP hD hS h')
theorem sw_astore_n (F : sw_H G C cc own Ts) {nL : Nat} (hnL : sw_n C = nL) {j : Fin 4} {i : Nat} {x : Nat} {lv' : List (Nat × Value)} (hdg : decode cc pc = .ok (.astore_n j, 1)) (hi : (j : Nat) = i) (hn : i < nL) (hl' : (i, Value.ref x) :: lv.filter (fun q => !(q.1 == i) && !(q.1 + 1 == i && q.2.category == 2)) = lv') (kk : SW G C k n ws lv' (pc + 1) rest) : SW G C k n ws lv pc (.ref x :: rest) :=
  fun H locs ls hP hD hS hl => lv_astore_n F.1 F.2.1 hdg hi hl (by rw [hnL]; exact hn) hl' (fun ls' h' => kk H locs ls' hP hD hS h')
theorem sw_astore (F : sw_H G C cc own Ts) {nL : Nat} (hnL : sw_n C = nL) {i : Nat} {x : Nat} {lv' : List (Nat × Value)} (hdg : decode cc pc = .ok (.astore i, 2)) (hn : i < nL) (hl' : (i, Value.ref x) :: lv.filter (fun q => !(q.1 == i) && !(q.1 + 1 == i && q.2.category == 2)) = lv') (kk : SW G C k n ws lv' (pc + 2) rest) : SW G C k n ws lv pc (.ref x :: rest) :=
  fun H locs ls hP hD hS hl => lv_astore F.1 F.2.1 hdg hl (by rw [hnL]; exact hn) hl' (fun ls' h' => kk H locs ls' hP hD hS h')
theorem sw_iinc (F : sw_H G C cc own Ts) {nL : Nat} (hnL : sw_n C = nL) {i q : Nat} {z : Int} {x v : Int32} {lv' : List (Nat × Value)} (hdg : decode cc pc = .ok (.iinc i z, 3)) (hq : lv[q]? = some (i, .int x)) (hv : x + Int32.ofInt z = v) (hn : i < nL) (hl' : (i, Value.int v) :: lv.filter (fun q => !(q.1 == i) && !(q.1 + 1 == i && q.2.category == 2)) = lv') (kk : SW G C k n ws lv' (pc + 3) rest) : SW G C k n ws lv pc rest :=
  fun H locs ls hP hD hS hl => lv_iinc F.1 F.2.1 hdg hl hq hv (by rw [hnL]; exact hn) hl' (fun ls' h' => kk H locs ls' hP hD hS h')
theorem sw_lvs {is : List Nat} {lv' : List (Nat × Value)} (h : lv_pick lv is = lv') (kk : SW G C k n ws lv' pc rest) : SW G C k n ws lv pc rest :=
  fun H locs ls hP hD hS hl => kk H locs ls hP hD hS (lv_sub hl is h)
theorem sw_topi {x : Int32} (kk : ∀ y : Int32, y = x → SW G C k n ws lv pc (.int y :: rest)) : SW G C k n ws lv pc (.int x :: rest) := kk x rfl
theorem sw_topl {x : Int64} (kk : ∀ y : Int64, y = x → SW G C k n ws lv pc (.long y :: rest)) : SW G C k n ws lv pc (.long x :: rest) := kk x rfl
theorem sw_dup (F : sw_H G C cc own Ts) {va : Value} (hdg : decode cc pc = .ok (.dup, 1)) (hva : va.category = 1) (kk : SW G C k n ws lv (pc + 1) (va :: va :: rest)) : SW G C k n ws lv pc (va :: rest) :=
  fun H locs ls hP hD hS hl => lv_dup F.1 F.2.1 hdg hva (kk H locs ls hP hD hS hl)
theorem sw_dup2 (F : sw_H G C cc own Ts) {va vb : Value} (hdg : decode cc pc = .ok (.dup2, 1)) (hva : va.category = 1) (hvb : vb.category = 1) (kk : SW G C k n ws lv (pc + 1) (va :: vb :: va :: vb :: rest)) : SW G C k n ws lv pc (va :: vb :: rest) :=
  fun H locs ls hP hD hS hl => lv_dup2_11 F.1 F.2.1 hdg hva hvb (kk H locs ls hP hD hS hl)
theorem sw_goto (F : sw_H G C cc own Ts) {off : Int} {tgt : Nat} (hdg : decode cc pc = .ok (.goto off, 3)) (ht : (pc : Int) + off = (tgt : Int)) (kk : SW G C k n ws lv tgt rest) : SW G C k n ws lv pc rest :=
  fun H locs ls hP hD hS hl => lv_goto F.1 F.2.1 hdg ht (kk H locs ls hP hD hS hl)
theorem sw_i2l (F : sw_H G C cc own Ts) {x : Int32} {v : Int64} (hdg : decode cc pc = .ok (.i2l, 1)) (hv : x.toInt64 = v) (kk : SW G C k n ws lv (pc + 1) (.long v :: rest)) : SW G C k n ws lv pc (.int x :: rest) :=
  fun H locs ls hP hD hS hl => lv_i2l F.1 F.2.1 hdg hv (kk H locs ls hP hD hS hl)
theorem sw_l2i (F : sw_H G C cc own Ts) {x : Int64} {v : Int32} (hdg : decode cc pc = .ok (.l2i, 1)) (hv : x.toInt32 = v) (kk : SW G C k n ws lv (pc + 1) (.int v :: rest)) : SW G C k n ws lv pc (.long x :: rest) :=
  fun H locs ls hP hD hS hl => lv_l2i F.1 F.2.1 hdg hv (kk H locs ls hP hD hS hl)
theorem sw_iadd (F : sw_H G C cc own Ts) {x y : Int32} (hdg : decode cc pc = .ok (.iadd, 1)) (kk : SW G C k n ws lv (pc + 1) (.int (x + y) :: rest)) : SW G C k n ws lv pc (.int y :: .int x :: rest) :=
  fun H locs ls hP hD hS hl => lv_iadd F.1 F.2.1 hdg (kk H locs ls hP hD hS hl)
theorem sw_isub (F : sw_H G C cc own Ts) {x y : Int32} (hdg : decode cc pc = .ok (.isub, 1)) (kk : SW G C k n ws lv (pc + 1) (.int (x - y) :: rest)) : SW G C k n ws lv pc (.int y :: .int x :: rest) :=
  fun H locs ls hP hD hS hl => lv_isub F.1 F.2.1 hdg (kk H locs ls hP hD hS hl)
theorem sw_imul (F : sw_H G C cc own Ts) {x y : Int32} (hdg : decode cc pc = .ok (.imul, 1)) (kk : SW G C k n ws lv (pc + 1) (.int (x * y) :: rest)) : SW G C k n ws lv pc (.int y :: .int x :: rest) :=
  fun H locs ls hP hD hS hl => lv_imul F.1 F.2.1 hdg (kk H locs ls hP hD hS hl)
theorem sw_iand (F : sw_H G C cc own Ts) {x y : Int32} (hdg : decode cc pc = .ok (.iand, 1)) (kk : SW G C k n ws lv (pc + 1) (.int (x &&& y) :: rest)) : SW G C k n ws lv pc (.int y :: .int x :: rest) :=
  fun H locs ls hP hD hS hl => lv_iand F.1 F.2.1 hdg (kk H locs ls hP hD hS hl)
theorem sw_ior (F : sw_H G C cc own Ts) {x y : Int32} (hdg : decode cc pc = .ok (.ior, 1)) (kk : SW G C k n ws lv (pc + 1) (.int (x ||| y) :: rest)) : SW G C k n ws lv pc (.int y :: .int x :: rest) :=
  fun H locs ls hP hD hS hl => lv_ior F.1 F.2.1 hdg (kk H locs ls hP hD hS hl)
theorem sw_ixor (F : sw_H G C cc own Ts) {x y : Int32} (hdg : decode cc pc = .ok (.ixor, 1)) (kk : SW G C k n ws lv (pc + 1) (.int (x ^^^ y) :: rest)) : SW G C k n ws lv pc (.int y :: .int x :: rest) :=
  fun H locs ls hP hD hS hl => lv_ixor F.1 F.2.1 hdg (kk H locs ls hP hD hS hl)
theorem sw_ishl (F : sw_H G C cc own Ts) {x y : Int32} (hdg : decode cc pc = .ok (.ishl, 1)) (kk : SW G C k n ws lv (pc + 1) (.int (x <<< (y &&& 31)) :: rest)) : SW G C k n ws lv pc (.int y :: .int x :: rest) :=
  fun H locs ls hP hD hS hl => lv_ishl F.1 F.2.1 hdg (kk H locs ls hP hD hS hl)
theorem sw_ladd (F : sw_H G C cc own Ts) {x y : Int64} (hdg : decode cc pc = .ok (.ladd, 1)) (kk : SW G C k n ws lv (pc + 1) (.long (x + y) :: rest)) : SW G C k n ws lv pc (.long y :: .long x :: rest) :=
  fun H locs ls hP hD hS hl => lv_ladd F.1 F.2.1 hdg (kk H locs ls hP hD hS hl)
theorem sw_lsub (F : sw_H G C cc own Ts) {x y : Int64} (hdg : decode cc pc = .ok (.lsub, 1)) (kk : SW G C k n ws lv (pc + 1) (.long (x - y) :: rest)) : SW G C k n ws lv pc (.long y :: .long x :: rest) :=
  fun H locs ls hP hD hS hl => lv_lsub F.1 F.2.1 hdg (kk H locs ls hP hD hS hl)
theorem sw_lmul (F : sw_H G C cc own Ts) {x y : Int64} (hdg : decode cc pc = .ok (.lmul, 1)) (kk : SW G C k n ws lv (pc + 1) (.long (x * y) :: rest)) : SW G C k n ws lv pc (.long y :: .long x :: rest) :=
  fun H locs ls hP hD hS hl => lv_lmul F.1 F.2.1 hdg (kk H locs ls hP hD hS hl)
theorem sw_land (F : sw_H G C cc own Ts) {x y : Int64} (hdg : decode cc pc = .ok (.land, 1)) (kk : SW G C k n ws lv (pc + 1) (.long (x &&& y) :: rest)) : SW G C k n ws lv pc (.long y :: .long x :: rest) :=
  fun H locs ls hP hD hS hl => lv_land F.1 F.2.1 hdg (kk H locs ls hP hD hS hl)
theorem sw_lor (F : sw_H G C cc own Ts) {x y : Int64} (hdg : decode cc pc = .ok (.lor, 1)) (kk : SW G C k n ws lv (pc + 1) (.long (x ||| y) :: rest)) : SW G C k n ws lv pc (.long y :: .long x :: rest) :=
  fun H locs ls hP hD hS hl => lv_lor F.1 F.2.1 hdg (kk H locs ls hP hD hS hl)
theorem sw_lxor (F : sw_H G C cc own Ts) {x y : Int64} (hdg : decode cc pc = .ok (.lxor, 1)) (kk : SW G C k n ws lv (pc + 1) (.long (x ^^^ y) :: rest)) : SW G C k n ws lv pc (.long y :: .long x :: rest) :=
  fun H locs ls hP hD hS hl => lv_lxor F.1 F.2.1 hdg (kk H locs ls hP hD hS hl)
theorem sw_idiv (F : sw_H G C cc own Ts) {x y : Int32} (hdg : decode cc pc = .ok (.idiv, 1)) (hne : ¬ y = 0) (kk : SW G C k n ws lv (pc + 1) (.int (x / y) :: rest)) : SW G C k n ws lv pc (.int y :: .int x :: rest) :=
  fun H locs ls hP hD hS hl => lv_idiv F.1 F.2.1 hdg hne (kk H locs ls hP hD hS hl)
theorem sw_irem (F : sw_H G C cc own Ts) {x y : Int32} (hdg : decode cc pc = .ok (.irem, 1)) (hne : ¬ y = 0) (kk : SW G C k n ws lv (pc + 1) (.int (x - x / y * y) :: rest)) : SW G C k n ws lv pc (.int y :: .int x :: rest) :=
  fun H locs ls hP hD hS hl => lv_irem F.1 F.2.1 hdg hne (kk H locs ls hP hD hS hl)
theorem sw_ldiv (F : sw_H G C cc own Ts) {x y : Int64} (hdg : decode cc pc = .ok (.ldiv, 1)) (hne : ¬ y = 0) (kk : SW G C k n ws lv (pc + 1) (.long (x / y) :: rest)) : SW G C k n ws lv pc (.long y :: .long x :: rest) :=
  fun H locs ls hP hD hS hl => lv_ldiv F.1 F.2.1 hdg hne (kk H locs ls hP hD hS hl)
theorem sw_lrem (F : sw_H G C cc own Ts) {x y : Int64} (hdg : decode cc pc = .ok (.lrem, 1)) (hne : ¬ y = 0) (kk : SW G C k n ws lv (pc + 1) (.long (x - x / y * y) :: rest)) : SW G C k n ws lv pc (.long y :: .long x :: rest) :=
  fun H locs ls hP hD hS hl => lv_lrem F.1 F.2.1 hdg hne (kk H locs ls hP hD hS hl)
theorem sw_lshl (F : sw_H G C cc own Ts) {x : Int64} {y : Int32} (hdg : decode cc pc = .ok (.lshl, 1)) (kk : SW G C k n ws lv (pc + 1) (.long (x <<< (y.toInt64 &&& 63)) :: rest)) : SW G C k n ws lv pc (.int y :: .long x :: rest) :=
  fun H locs ls hP hD hS hl => lv_lshl F.1 F.2.1 hdg rfl (kk H locs ls hP hD hS hl)
theorem sw_lshr (F : sw_H G C cc own Ts) {x : Int64} {y : Int32} (hdg : decode cc pc = .ok (.lshr, 1)) (kk : SW G C k n ws lv (pc + 1) (.long (x >>> (y.toInt64 &&& 63)) :: rest)) : SW G C k n ws lv pc (.int y :: .long x :: rest) :=
  fun H locs ls hP hD hS hl => lv_lshr F.1 F.2.1 hdg rfl (kk H locs ls hP hD hS hl)
theorem sw_if_eq (F : sw_H G C cc own Ts) {x : Int32} {off : Int} {tgt : Nat} (hdg : decode cc pc = .ok (.ifCond .eq off, 3)) (ht : (pc : Int) + off = (tgt : Int)) (kt : x = 0 → SW G C k n ws lv tgt rest) (kf : ¬ x = 0 → SW G C k n ws lv (pc + 3) rest) : SW G C k n ws lv pc (.int x :: rest) :=
  fun H locs ls hP hD hS hl => lv_if_eq F.1 F.2.1 hdg ht (fun h => kt h H locs ls hP hD hS hl) (fun h => kf h H locs ls hP hD hS hl)
theorem sw_icmp_eq (F : sw_H G C cc own Ts) {x y : Int32} {off : Int} {tgt : Nat} (hdg : decode cc pc = .ok (.if_icmp .eq off, 3)) (ht : (pc : Int) + off = (tgt : Int)) (kt : x = y → SW G C k n ws lv tgt rest) (kf : ¬ x = y → SW G C k n ws lv (pc + 3) rest) : SW G C k n ws lv pc (.int y :: .int x :: rest) :=
  fun H locs ls hP hD hS hl => lv_icmp_eq F.1 F.2.1 hdg ht (fun h => kt h H locs ls hP hD hS hl) (fun h => kf h H locs ls hP hD hS hl)
theorem sw_if_ne (F : sw_H G C cc own Ts) {x : Int32} {off : Int} {tgt : Nat} (hdg : decode cc pc = .ok (.ifCond .ne off, 3)) (ht : (pc : Int) + off = (tgt : Int)) (kt : ¬ x = 0 → SW G C k n ws lv tgt rest) (kf : x = 0 → SW G C k n ws lv (pc + 3) rest) : SW G C k n ws lv pc (.int x :: rest) :=
  fun H locs ls hP hD hS hl => lv_if_ne F.1 F.2.1 hdg ht (fun h => kt h H locs ls hP hD hS hl) (fun h => kf h H locs ls hP hD hS hl)
theorem sw_icmp_ne (F : sw_H G C cc own Ts) {x y : Int32} {off : Int} {tgt : Nat} (hdg : decode cc pc = .ok (.if_icmp .ne off, 3)) (ht : (pc : Int) + off = (tgt : Int)) (kt : ¬ x = y → SW G C k n ws lv tgt rest) (kf : x = y → SW G C k n ws lv (pc + 3) rest) : SW G C k n ws lv pc (.int y :: .int x :: rest) :=
  fun H locs ls hP hD hS hl => lv_icmp_ne F.1 F.2.1 hdg ht (fun h => kt h H locs ls hP hD hS hl) (fun h => kf h H locs ls hP hD hS hl)
theorem sw_if_lt (F : sw_H G C cc own Ts) {x : Int32} {off : Int} {tgt : Nat} (hdg : decode cc pc = .ok (.ifCond .lt off, 3)) (ht : (pc : Int) + off = (tgt : Int)) (kt : x < 0 → SW G C k n ws lv tgt rest) (kf : ¬ x < 0 → SW G C k n ws lv (pc + 3) rest) : SW G C k n ws lv pc (.int x :: rest) :=
  fun H locs ls hP hD hS hl => lv_if_lt F.1 F.2.1 hdg ht (fun h => kt h H locs ls hP hD hS hl) (fun h => kf h H locs ls hP hD hS hl)
theorem sw_icmp_lt (F : sw_H G C cc own Ts) {x y : Int32} {off : Int} {tgt : Nat} (hdg : decode cc pc = .ok (.if_icmp .lt off, 3)) (ht : (pc : Int) + off = (tgt : Int)) (kt : x < y → SW G C k n ws lv tgt rest) (kf : ¬ x < y → SW G C k n ws lv (pc + 3) rest) : SW G C k n ws lv pc (.int y :: .int x :: rest) :=
  fun H locs ls hP hD hS hl => lv_icmp_lt F.1 F.2.1 hdg ht (fun h => kt h H locs ls hP hD hS hl) (fun h => kf h H locs ls hP hD hS hl)
theorem sw_if_ge (F : sw_H G C cc own Ts) {x : Int32} {off : Int} {tgt : Nat} (hdg : decode cc pc = .ok (.ifCond .ge off, 3)) (ht : (pc : Int) + off = (tgt : Int)) (kt : 0 ≤ x → SW G C k n ws lv tgt rest) (kf : ¬ 0 ≤ x → SW G C k n ws lv (pc + 3) rest) : SW G C k n ws lv pc (.int x :: rest) :=
  fun H locs ls hP hD hS hl => lv_if_ge F.1 F.2.1 hdg ht (fun h => kt h H locs ls hP hD hS hl) (fun h => kf h H locs ls hP hD hS hl)
theorem sw_icmp_ge (F : sw_H G C cc own Ts) {x y : Int32} {off : Int} {tgt : Nat} (hdg : decode cc pc = .ok (.if_icmp .ge off, 3)) (ht : (pc : Int) + off = (tgt : Int)) (kt : y ≤ x → SW G C k n ws lv tgt rest) (kf : ¬ y ≤ x → SW G C k n ws lv (pc + 3) rest) : SW G C k n ws lv pc (.int y :: .int x :: rest) :=
  fun H locs ls hP hD hS hl => lv_icmp_ge F.1 F.2.1 hdg ht (fun h => kt h H locs ls hP hD hS hl) (fun h => kf h H locs ls hP hD hS hl)
theorem sw_if_gt (F : sw_H G C cc own Ts) {x : Int32} {off : Int} {tgt : Nat} (hdg : decode cc pc = .ok (.ifCond .gt off, 3)) (ht : (pc : Int) + off = (tgt : Int)) (kt : 0 < x → SW G C k n ws lv tgt rest) (kf : ¬ 0 < x → SW G C k n ws lv (pc + 3) rest) : SW G C k n ws lv pc (.int x :: rest) :=
  fun H locs ls hP hD hS hl => lv_if_gt F.1 F.2.1 hdg ht (fun h => kt h H locs ls hP hD hS hl) (fun h => kf h H locs ls hP hD hS hl)
theorem sw_icmp_gt (F : sw_H G C cc own Ts) {x y : Int32} {off : Int} {tgt : Nat} (hdg : decode cc pc = .ok (.if_icmp .gt off, 3)) (ht : (pc : Int) + off = (tgt : Int)) (kt : y < x → SW G C k n ws lv tgt rest) (kf : ¬ y < x → SW G C k n ws lv (pc + 3) rest) : SW G C k n ws lv pc (.int y :: .int x :: rest) :=
  fun H locs ls hP hD hS hl => lv_icmp_gt F.1 F.2.1 hdg ht (fun h => kt h H locs ls hP hD hS hl) (fun h => kf h H locs ls hP hD hS hl)
theorem sw_if_le (F : sw_H G C cc own Ts) {x : Int32} {off : Int} {tgt : Nat} (hdg : decode cc pc = .ok (.ifCond .le off, 3)) (ht : (pc : Int) + off = (tgt : Int)) (kt : x ≤ 0 → SW G C k n ws lv tgt rest) (kf : ¬ x ≤ 0 → SW G C k n ws lv (pc + 3) rest) : SW G C k n ws lv pc (.int x :: rest) :=
  fun H locs ls hP hD hS hl => lv_if_le F.1 F.2.1 hdg ht (fun h => kt h H locs ls hP hD hS hl) (fun h => kf h H locs ls hP hD hS hl)
theorem sw_icmp_le (F : sw_H G C cc own Ts) {x y : Int32} {off : Int} {tgt : Nat} (hdg : decode cc pc = .ok (.if_icmp .le off, 3)) (ht : (pc : Int) + off = (tgt : Int)) (kt : x ≤ y → SW G C k n ws lv tgt rest) (kf : ¬ x ≤ y → SW G C k n ws lv (pc + 3) rest) : SW G C k n ws lv pc (.int y :: .int x :: rest) :=
  fun H locs ls hP hD hS hl => lv_icmp_le F.1 F.2.1 hdg ht (fun h => kt h H locs ls hP hD hS hl) (fun h => kf h H locs ls hP hD hS hl)
/- raw: x = 0 / ¬ x = 0 -/
theorem sw_lcmp_eq (F : sw_H G C cc own Ts) {x y : Int64} {off : Int} {tgt : Nat} (hd0 : decode cc pc = .ok (.lcmp, 1)) (hdg : decode cc (pc + 1) = .ok (.ifCond .eq off, 3)) (ht : ((pc + 1 : Nat) : Int) + off = (tgt : Int)) (kt : x = y → SW G C k n ws lv tgt rest) (kf : ¬ x = y → SW G C k n ws lv (pc + 4) rest) : SW G C k n ws lv pc (.long y :: .long x :: rest) :=
  fun H locs ls hP hD hS hl => W.lcmp F.1 F.2.1 hd0 (lv_if_eq F.1 F.2.1 hdg ht (fun h => kt ((lg_cmp_eq x y).mp h) H locs ls hP hD hS hl) (fun h => kf (fun z => h ((lg_cmp_eq x y).mpr z)) H locs ls hP hD hS hl))
/- raw: ¬ x = 0 / x = 0 -/
theorem sw_lcmp_ne (F : sw_H G C cc own Ts) {x y : Int64} {off : Int} {tgt : Nat} (hd0 : decode cc pc = .ok (.lcmp, 1)) (hdg : decode cc (pc + 1) = .ok (.ifCond .ne off, 3)) (ht : ((pc + 1 : Nat) : Int) + off = (tgt : Int)) (kt : ¬ x = y → SW G C k n ws lv tgt rest) (kf : x = y → SW G C k n ws lv (pc + 4) rest) : SW G C k n ws lv pc (.long y :: .long x :: rest) :=
  fun H locs ls hP hD hS hl => W.lcmp F.1 F.2.1 hd0 (lv_if_ne F.1 F.2.1 hdg ht (fun h => kt (fun z => h ((lg_cmp_eq x y).mpr z)) H locs ls hP hD hS hl) (fun h => kf ((lg_cmp_eq x y).mp h) H locs ls hP hD hS hl))
/- raw: x < 0 / ¬ x < 0 -/
theorem sw_lcmp_lt (F : sw_H G C cc own Ts) {x y : Int64} {off : Int} {tgt : Nat} (hd0 : decode cc pc = .ok (.lcmp, 1)) (hdg : decode cc (pc + 1) = .ok (.ifCond .lt off, 3)) (ht : ((pc + 1 : Nat) : Int) + off = (tgt : Int)) (kt : x < y → SW G C k n ws lv tgt rest) (kf : ¬ x < y → SW G C k n ws lv (pc + 4) rest) : SW G C k n ws lv pc (.long y :: .long x :: rest) :=
  fun H locs ls hP hD hS hl => W.lcmp F.1 F.2.1 hd0 (lv_if_lt F.1 F.2.1 hdg ht (fun h => kt ((lg_cmp_lt x y).mp h) H locs ls hP hD hS hl) (fun h => kf (fun z => h ((lg_cmp_lt x y).mpr z)) H locs ls hP hD hS hl))
/- raw: 0 ≤ x / ¬ 0 ≤ x -/
theorem sw_lcmp_ge (F : sw_H G C cc own Ts) {x y : Int64} {off : Int} {tgt : Nat} (hd0 : decode cc pc = .ok (.lcmp, 1)) (hdg : decode cc (pc + 1) = .ok (.ifCond .ge off, 3)) (ht : ((pc + 1 : Nat) : Int) + off = (tgt : Int)) (kt : y ≤ x → SW G C k n ws lv tgt rest) (kf : ¬ y ≤ x → SW G C k n ws lv (pc + 4) rest) : SW G C k n ws lv pc (.long y :: .long x :: rest) :=
  fun H locs ls hP hD hS hl => W.lcmp F.1 F.2.1 hd0 (lv_if_ge F.1 F.2.1 hdg ht (fun h => kt ((lg_cmp_ge x y).mp h) H locs ls hP hD hS hl) (fun h => kf (fun z => h ((lg_cmp_ge x y).mpr z)) H locs ls hP hD hS hl))
/- raw: 0 < x / ¬ 0 < x -/
theorem sw_lcmp_gt (F : sw_H G C cc own Ts) {x y : Int64} {off : Int} {tgt : Nat} (hd0 : decode cc pc = .ok (.lcmp, 1)) (hdg : decode cc (pc + 1) = .ok (.ifCond .gt off, 3)) (ht : ((pc + 1 : Nat) : Int) + off = (tgt : Int)) (kt : y < x → SW G C k n ws lv tgt rest) (kf : ¬ y < x → SW G C k n ws lv (pc + 4) rest) : SW G C k n ws lv pc (.long y :: .long x :: rest) :=
  fun H locs ls hP hD hS hl => W.lcmp F.1 F.2.1 hd0 (lv_if_gt F.1 F.2.1 hdg ht (fun h => kt ((lg_cmp_gt x y).mp h) H locs ls hP hD hS hl) (fun h => kf (fun z => h ((lg_cmp_gt x y).mpr z)) H locs ls hP hD hS hl))
/- raw: x ≤ 0 / ¬ x ≤ 0 -/
theorem sw_lcmp_le (F : sw_H G C cc own Ts) {x y : Int64} {off : Int} {tgt : Nat} (hd0 : decode cc pc = .ok (.lcmp, 1)) (hdg : decode cc (pc + 1) = .ok (.ifCond .le off, 3)) (ht : ((pc + 1 : Nat) : Int) + off = (tgt : Int)) (kt : x ≤ y → SW G C k n ws lv tgt rest) (kf : ¬ x ≤ y → SW G C k n ws lv (pc + 4) rest) : SW G C k n ws lv pc (.long y :: .long x :: rest) :=
  fun H locs ls hP hD hS hl => W.lcmp F.1 F.2.1 hd0 (lv_if_le F.1 F.2.1 hdg ht (fun h => kt ((lg_cmp_le x y).mp h) H locs ls hP hD hS hl) (fun h => kf (fun z => h ((lg_cmp_le x y).mpr z)) H locs ls hP hD hS hl))
end SWrows
