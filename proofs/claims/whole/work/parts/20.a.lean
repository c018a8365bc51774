def f_J9_floorDiv_7cf53_r (x : Int32) (y : Int32) : Int32 := if 0 ≤ (x ^^^ y) then ((x / y)) else (if ((x / y) * y) = x then ((x / y)) else (((x / y) - 1)))
set_option maxHeartbeats 4000000 in
set_option maxRecDepth 100000 in
theorem k_J9_floorDiv_7cf53 (l : Launch) (G : sw_E) (x : Int32) (y : Int32) (hy : ¬ y = 0) : sw_M l G yJ9_floorDiv_7cf53 wsJ9_floorDiv_7cf53 ({ frames := 0, cells := 0, slots := 0, locals := 0 } : Room) [.int x, .int y] [] (sw_QI G (S := Unit) (fun (r : Int32) (_ : Unit) => r = f_J9_floorDiv_7cf53_r x y) (fun _ => [])) 0 0 := by
  refine sw_startJ (cc := cJ9_floorDiv_7cf53) (maxL := 3) (ret := some .int) (lv := [(0, .int x), (1, .int y)]) (own := RJ9) (nm := "floorDiv") (by decide +kernel) rfl rfl rfl rfl (Nat.le_of_ble_eq_true rfl) (fun C F T => ?_)
  refine sw_iload_n (pc := 0) F dJ9_floorDiv_7cf53_0 rfl 0 rfl ?_
  refine sw_iload_n (pc := 1) F dJ9_floorDiv_7cf53_1 rfl 1 rfl ?_
  refine sw_idiv (pc := 2) F dJ9_floorDiv_7cf53_2 (by assumption) ?_
  refine sw_topi (fun x_1 ex_1 => ?_)
  refine sw_istore_n (pc := 3) (lv' := [(2, .int x_1), (0, .int x), (1, .int y)]) F T.1 dJ9_floorDiv_7cf53_3 rfl (by decide) rfl ?_
  refine sw_iload_n (pc := 4) F dJ9_floorDiv_7cf53_4 rfl 1 rfl ?_
  refine sw_iload_n (pc := 5) F dJ9_floorDiv_7cf53_5 rfl 2 rfl ?_
  refine sw_ixor (pc := 6) F dJ9_floorDiv_7cf53_6 ?_
  refine sw_topi (fun x_2 ex_2 => ?_)
  refine sw_if_ge (pc := 7) (tgt := 21) F dJ9_floorDiv_7cf53_7 (by decide) (fun c_3 => ?_) (fun c_3 => ?_)
  · skip
    refine sw_iload_n (pc := 21) F dJ9_floorDiv_7cf53_21 rfl 0 rfl ?_
    subst ex_2
    subst ex_1
    exact sw_iret (pc := 22) F T rfl rfl () (by unfold f_J9_floorDiv_7cf53_r; rw [if_pos c_3]) rfl dJ9_floorDiv_7cf53_22
  · skip
    refine sw_iload_n (pc := 10) F dJ9_floorDiv_7cf53_10 rfl 0 rfl ?_
    refine sw_iload_n (pc := 11) F dJ9_floorDiv_7cf53_11 rfl 2 rfl ?_
    refine sw_imul (pc := 12) F dJ9_floorDiv_7cf53_12 ?_
    refine sw_topi (fun x_4 ex_4 => ?_)
    refine sw_iload_n (pc := 13) F dJ9_floorDiv_7cf53_13 rfl 1 rfl ?_
    refine sw_icmp_eq (pc := 14) (tgt := 21) F dJ9_floorDiv_7cf53_14 (by decide) (fun c_5 => ?_) (fun c_5 => ?_)
    · skip
      refine sw_iload_n (pc := 21) F dJ9_floorDiv_7cf53_21 rfl 0 rfl ?_
      subst ex_4
      subst ex_2
      subst ex_1
      exact sw_iret (pc := 22) F T rfl rfl () (by unfold f_J9_floorDiv_7cf53_r; rw [if_neg c_3, if_pos c_5]) rfl dJ9_floorDiv_7cf53_22
    · skip
      refine sw_iload_n (pc := 17) F dJ9_floorDiv_7cf53_17 rfl 0 rfl ?_
      refine sw_iconst (pc := 18) (v := 1) F dJ9_floorDiv_7cf53_18 rfl ?_
      refine sw_isub (pc := 19) F dJ9_floorDiv_7cf53_19 ?_
      refine sw_topi (fun x_6 ex_6 => ?_)
      subst ex_6
      subst ex_4
      subst ex_2
      subst ex_1
      exact sw_iret (pc := 20) F T rfl rfl () (by unfold f_J9_floorDiv_7cf53_r; rw [if_neg c_3, if_neg c_5]) rfl dJ9_floorDiv_7cf53_20
def f_J9_floorDiv_f86c9_r (x : Int64) (y : Int64) : Int64 := if 0 ≤ (x ^^^ y) then ((x / y)) else (if ((x / y) * y) = x then ((x / y)) else (((x / y) - 1)))
set_option maxHeartbeats 4000000 in
set_option maxRecDepth 100000 in
theorem k_J9_floorDiv_f86c9 (l : Launch) (G : sw_E) (x : Int64) (y : Int64) (hy : ¬ y = 0) : sw_M l G yJ9_floorDiv_f86c9 wsJ9_floorDiv_f86c9 ({ frames := 0, cells := 0, slots := 0, locals := 0 } : Room) [.long x, .long y] [] (sw_QL G (S := Unit) (fun (r : Int64) (_ : Unit) => r = f_J9_floorDiv_f86c9_r x y) (fun _ => [])) 0 0 := by
  refine sw_startJ (cc := cJ9_floorDiv_f86c9) (maxL := 6) (ret := some .long) (lv := [(0, .long x), (2, .long y)]) (own := RJ9) (nm := "floorDiv") (by decide +kernel) rfl rfl rfl rfl (Nat.le_of_ble_eq_true rfl) (fun C F T => ?_)
  refine sw_lload_n (pc := 0) F dJ9_floorDiv_f86c9_0 rfl 0 rfl ?_
  refine sw_lload_n (pc := 1) F dJ9_floorDiv_f86c9_1 rfl 1 rfl ?_
  refine sw_ldiv (pc := 2) F dJ9_floorDiv_f86c9_2 (by assumption) ?_
  refine sw_topl (fun x_1 ex_1 => ?_)
  refine sw_lstore (pc := 3) (lv' := [(4, .long x_1), (0, .long x), (2, .long y)]) F T.1 dJ9_floorDiv_f86c9_3 (by decide) rfl ?_
  refine sw_lload_n (pc := 5) F dJ9_floorDiv_f86c9_5 rfl 1 rfl ?_
  refine sw_lload_n (pc := 6) F dJ9_floorDiv_f86c9_6 rfl 2 rfl ?_
  refine sw_lxor (pc := 7) F dJ9_floorDiv_f86c9_7 ?_
  refine sw_topl (fun x_2 ex_2 => ?_)
  refine sw_lconst (pc := 8) (v := 0) F dJ9_floorDiv_f86c9_8 rfl ?_
  refine sw_lcmp_ge (pc := 9) (tgt := 27) F dJ9_floorDiv_f86c9_9 dJ9_floorDiv_f86c9_10 (by decide) (fun c_3 => ?_) (fun c_3 => ?_)
  · skip
    refine sw_lload (pc := 27) F dJ9_floorDiv_f86c9_27 0 rfl ?_
    subst ex_2
    subst ex_1
    exact sw_lret (pc := 29) F T () (by unfold f_J9_floorDiv_f86c9_r; rw [if_pos c_3]) rfl dJ9_floorDiv_f86c9_29
  · skip
    refine sw_lload (pc := 13) F dJ9_floorDiv_f86c9_13 0 rfl ?_
    refine sw_lload_n (pc := 15) F dJ9_floorDiv_f86c9_15 rfl 2 rfl ?_
    refine sw_lmul (pc := 16) F dJ9_floorDiv_f86c9_16 ?_
    refine sw_topl (fun x_4 ex_4 => ?_)
    refine sw_lload_n (pc := 17) F dJ9_floorDiv_f86c9_17 rfl 1 rfl ?_
    refine sw_lcmp_eq (pc := 18) (tgt := 27) F dJ9_floorDiv_f86c9_18 dJ9_floorDiv_f86c9_19 (by decide) (fun c_5 => ?_) (fun c_5 => ?_)
    · skip
      refine sw_lload (pc := 27) F dJ9_floorDiv_f86c9_27 0 rfl ?_
      subst ex_4
      subst ex_2
      subst ex_1
      exact sw_lret (pc := 29) F T () (by unfold f_J9_floorDiv_f86c9_r; rw [if_neg c_3, if_pos c_5]) rfl dJ9_floorDiv_f86c9_29
    · skip
      refine sw_lload (pc := 22) F dJ9_floorDiv_f86c9_22 0 rfl ?_
      refine sw_lconst (pc := 24) (v := 1) F dJ9_floorDiv_f86c9_24 rfl ?_
      refine sw_lsub (pc := 25) F dJ9_floorDiv_f86c9_25 ?_
      refine sw_topl (fun x_6 ex_6 => ?_)
      subst ex_6
      subst ex_4
      subst ex_2
      subst ex_1
      exact sw_lret (pc := 26) F T () (by unfold f_J9_floorDiv_f86c9_r; rw [if_neg c_3, if_neg c_5]) rfl dJ9_floorDiv_f86c9_26
set_option maxHeartbeats 4000000 in
set_option maxRecDepth 100000 in
theorem k_X8_init (l : Launch) (G : sw_E) (h0 : Nat) (s : Int32) (o : Int32) (to : Int32) (ts : Int32) (td : Int32) (tr : Int32) (tf : Int32) (tw : Int32)  : sw_M l G yX8_init wsX8_init ({ frames := 1, cells := 0, slots := 0, locals := 12 } : Room) [.ref h0, .int s, .int o] [(h0, .inr (8, [.int to, .int ts, .int td, .int tr, .int tf, .int tw]))] (sw_QV G (S := Unit) (fun (_ : Unit) => True) (fun _ => [(h0, .inr (8, [.int o, .int s, .int td, .int 13107, .int o, .int tw]))])) 0 0 := by
  refine sw_start (cc := cX8_init) (maxL := 3) (ret := none) (lv := [(0, .ref h0), (1, .int s), (2, .int o)]) (own := RX8) (nm := "<init>") (by decide +kernel) rfl rfl rfl rfl (Nat.le_of_ble_eq_true rfl) (fun C F T => ?_)
  have in8 : ∀ w ∈ u_ws RX8 TX8 6, w ∈ wsX8_init := fun w h => List.mem_cons_of_mem _ (List.mem_append_right _ (h))
  refine sw_aload_n (pc := 0) F dX8_init_0 rfl 0 rfl ?_
  refine sw_objInit (pc := 1) (rm := ({ frames := 1, cells := 0, slots := 0, locals := 12 } : Room)) F T.2.1 (List.mem_of_getElem? (i := 1) rfl) (List.mem_of_getElem? (i := 2) rfl) (List.mem_of_getElem? (i := 3) rfl) dX8_init_1 (Nat.le_of_ble_eq_true rfl) (Nat.le_of_ble_eq_true rfl) ?_
  refine sw_aload_n (pc := 4) F dX8_init_4 rfl 0 rfl ?_
  refine sw_sipush (pc := 5) (v := 13107) F dX8_init_5 rfl ?_
  refine sw_put (pc := 8) (Cn := RX8) (T := TX8) (N := 6) (ci := 8) (ty0 := tyX8) (ws' := [(h0, .inr (8, [.int to, .int ts, .int td, .int 13107, .int tf, .int tw]))]) F in8 tyX8_ok nmX8 0 rfl rfl 3 (by decide) rfl (List.mem_of_getElem? (i := 4) rfl) rfl rfl rfl (Nat.le_of_ble_eq_true rfl) dX8_init_8 rfl ?_
  refine sw_aload_n (pc := 11) F dX8_init_11 rfl 0 rfl ?_
  refine sw_iload_n (pc := 12) F dX8_init_12 rfl 1 rfl ?_
  refine sw_put (pc := 13) (Cn := RX8) (T := TX8) (N := 6) (ci := 8) (ty0 := tyX8) (ws' := [(h0, .inr (8, [.int to, .int s, .int td, .int 13107, .int tf, .int tw]))]) F in8 tyX8_ok nmX8 0 rfl rfl 1 (by decide) rfl (List.mem_of_getElem? (i := 5) rfl) rfl rfl rfl (Nat.le_of_ble_eq_true rfl) dX8_init_13 rfl ?_
  refine sw_aload_n (pc := 16) F dX8_init_16 rfl 0 rfl ?_
  refine sw_iload_n (pc := 17) F dX8_init_17 rfl 2 rfl ?_
  refine sw_putF (pc := 18) (Cn := RX8) (T := TX8) (N := 6) (ci := 8) (ty0 := tyX8) (ws' := [(h0, .inr (8, [.int o, .int s, .int td, .int 13107, .int tf, .int tw]))]) F (T.2.2.2.2.1) in8 tyX8_ok nmX8 0 rfl rfl 0 (by decide) rfl (List.mem_of_getElem? (i := 6) rfl) rfl rfl rfl (Nat.le_of_ble_eq_true rfl) dX8_init_18 rfl ?_
  refine sw_aload_n (pc := 21) F dX8_init_21 rfl 0 rfl ?_
  refine sw_iload_n (pc := 22) F dX8_init_22 rfl 2 rfl ?_
  refine sw_put (pc := 23) (Cn := RX8) (T := TX8) (N := 6) (ci := 8) (ty0 := tyX8) (ws' := [(h0, .inr (8, [.int o, .int s, .int td, .int 13107, .int o, .int tw]))]) F in8 tyX8_ok nmX8 0 rfl rfl 4 (by decide) rfl (List.mem_of_getElem? (i := 7) rfl) rfl rfl rfl (Nat.le_of_ble_eq_true rfl) dX8_init_23 rfl ?_
  exact sw_vret (pc := 26) F T () trivial rfl dX8_init_26
def f_X8_reading_r (to : Int32) (ts : Int32) (tr : Int32) : Int32 := (to + (f_J9_floorDiv_7cf53_r (ts * (tr - 13107)) 52428))
set_option maxHeartbeats 4000000 in
set_option maxRecDepth 100000 in
theorem k_X8_reading (l : Launch) (G : sw_E) (h0 : Nat) (to : Int32) (ts : Int32) (td : Int32) (tr : Int32) (tf : Int32) (tw : Int32)  : sw_M l G yX8_reading wsX8_reading ({ frames := 1, cells := 0, slots := 0, locals := 22 } : Room) [.ref h0] [(h0, .inr (8, [.int to, .int ts, .int td, .int tr, .int tf, .int tw]))] (sw_QI G (S := Unit) (fun (r : Int32) (_ : Unit) => r = f_X8_reading_r to ts tr) (fun _ => [(h0, .inr (8, [.int to, .int ts, .int td, .int tr, .int tf, .int tw]))])) 0 0 := by
  refine sw_start (cc := cX8_reading) (maxL := 1) (ret := some .int) (lv := [(0, .ref h0)]) (own := RX8) (nm := "reading") (by decide +kernel) rfl rfl rfl rfl (Nat.le_of_ble_eq_true rfl) (fun C F T => ?_)
  have in8 : ∀ w ∈ u_ws RX8 TX8 6, w ∈ wsX8_reading := fun w h => List.mem_cons_of_mem _ (List.mem_append_right _ (h))
  refine sw_aload_n (pc := 0) F dX8_reading_0 rfl 0 rfl ?_
  refine sw_get (pc := 1) (Cn := RX8) (T := TX8) (N := 6) (ci := 8) (v := .int to) F in8 0 rfl rfl 0 (by decide) rfl (List.mem_of_getElem? (i := 1) rfl) rfl dX8_reading_1 ?_
  refine sw_aload_n (pc := 4) F dX8_reading_4 rfl 0 rfl ?_
  refine sw_get (pc := 5) (Cn := RX8) (T := TX8) (N := 6) (ci := 8) (v := .int ts) F in8 0 rfl rfl 1 (by decide) rfl (List.mem_of_getElem? (i := 2) rfl) rfl dX8_reading_5 ?_
  refine sw_aload_n (pc := 8) F dX8_reading_8 rfl 0 rfl ?_
  refine sw_get (pc := 9) (Cn := RX8) (T := TX8) (N := 6) (ci := 8) (v := .int tr) F in8 0 rfl rfl 3 (by decide) rfl (List.mem_of_getElem? (i := 3) rfl) rfl dX8_reading_9 ?_
  refine sw_sipush (pc := 12) (v := 13107) F dX8_reading_12 rfl ?_
  refine sw_isub (pc := 15) F dX8_reading_15 ?_
  refine sw_topi (fun x_1 ex_1 => ?_)
  refine sw_imul (pc := 16) F dX8_reading_16 ?_
  refine sw_topi (fun x_2 ex_2 => ?_)
  refine sw_ldc (pc := 17) (v := 52428) F (List.mem_of_getElem? (i := 4) rfl) dX8_reading_17 ?_
  refine sw_calli (pc := 19) (wr := [(h0, .inr (8, [.int to, .int ts, .int td, .int tr, .int tf, .int tw]))]) (k' := 0) (n' := 0) F (sw_runS (R := ({ frames := 1, cells := 0, slots := 0, locals := 22 } : Room)) (na := 2) F T.2.1 T.2.2.1 (k_J9_floorDiv_7cf53 l G x_2 52428 (by decide)) [] rfl (by decide) gX8_reading_J9_floorDiv_7cf53 rfl rfl rfl (by decide +kernel) ⟨Nat.le_of_ble_eq_true rfl, Nat.le_of_ble_eq_true rfl⟩ rfl rfl (Nat.le_of_ble_eq_true rfl) dX8_reading_19 (Nat.le_of_ble_eq_true rfl) (Nat.le_of_ble_eq_true rfl)) [] [0] rfl rfl (by decide) (by decide) rfl rfl (fun r_3 u_4 h_5 => ?_)
  have e_6 : r_3 = f_J9_floorDiv_7cf53_r x_2 52428 := h_5
  refine sw_eq (ws' := [(h0, .inr (8, [.int to, .int ts, .int td, .int tr, .int tf, .int tw]))]) (lv' := [(0, .ref h0)]) (st' := [.int r_3, .int to]) rfl rfl rfl ?_
  refine sw_iadd (pc := 22) F dX8_reading_22 ?_
  refine sw_topi (fun x_7 ex_7 => ?_)
  subst ex_7
  subst e_6
  subst ex_2
  subst ex_1
  exact sw_iret (pc := 23) F T rfl rfl () rfl rfl dX8_reading_23
def f_X8_isFaulty_r (tr : Int32) : Int32 := if 12000 ≤ tr then (0) else (1)
set_option maxHeartbeats 4000000 in
set_option maxRecDepth 100000 in
theorem k_X8_isFaulty (l : Launch) (G : sw_E) (h0 : Nat) (to : Int32) (ts : Int32) (td : Int32) (tr : Int32) (tf : Int32) (tw : Int32)  : sw_M l G yX8_isFaulty wsX8_isFaulty ({ frames := 0, cells := 0, slots := 0, locals := 0 } : Room) [.ref h0] [(h0, .inr (8, [.int to, .int ts, .int td, .int tr, .int tf, .int tw]))] (sw_QI G (S := Unit) (fun (r : Int32) (_ : Unit) => r = f_X8_isFaulty_r tr) (fun _ => [(h0, .inr (8, [.int to, .int ts, .int td, .int tr, .int tf, .int tw]))])) 0 0 := by
  refine sw_start (cc := cX8_isFaulty) (maxL := 1) (ret := some .boolean) (lv := [(0, .ref h0)]) (own := RX8) (nm := "isFaulty") (by decide +kernel) rfl rfl rfl rfl (Nat.le_of_ble_eq_true rfl) (fun C F T => ?_)
  have in8 : ∀ w ∈ u_ws RX8 TX8 6, w ∈ wsX8_isFaulty := fun w h => List.mem_cons_of_mem _ (List.mem_append_right _ (h))
  refine sw_aload_n (pc := 0) F dX8_isFaulty_0 rfl 0 rfl ?_
  refine sw_get (pc := 1) (Cn := RX8) (T := TX8) (N := 6) (ci := 8) (v := .int tr) F in8 0 rfl rfl 3 (by decide) rfl (List.mem_of_getElem? (i := 1) rfl) rfl dX8_isFaulty_1 ?_
  refine sw_sipush (pc := 4) (v := 12000) F dX8_isFaulty_4 rfl ?_
  refine sw_icmp_ge (pc := 7) (tgt := 14) F dX8_isFaulty_7 (by decide) (fun c_1 => ?_) (fun c_1 => ?_)
  · skip
    refine sw_iconst (pc := 14) (v := 0) F dX8_isFaulty_14 rfl ?_
    exact sw_iret (pc := 15) F T rfl rfl () (by unfold f_X8_isFaulty_r; rw [if_pos c_1]) rfl dX8_isFaulty_15
  · skip
    refine sw_iconst (pc := 10) (v := 1) F dX8_isFaulty_10 rfl ?_
    refine sw_goto (pc := 11) (tgt := 15) F dX8_isFaulty_11 (by decide) ?_
    exact sw_iret (pc := 15) F T rfl rfl () (by unfold f_X8_isFaulty_r; rw [if_neg c_1]) rfl dX8_isFaulty_15
set_option maxHeartbeats 4000000 in
set_option maxRecDepth 100000 in
theorem k_X8_copyFrom (l : Launch) (G : sw_E) (h0 : Nat) (h1 : Nat) (to : Int32) (ts : Int32) (td : Int32) (tr : Int32) (tf : Int32) (tw : Int32) (zo : Int32) (zs : Int32) (zd : Int32) (zr : Int32) (zf : Int32) (zw : Int32) (hb_zw : zw = 0 ∨ zw = 1) : sw_M l G yX8_copyFrom wsX8_copyFrom ({ frames := 0, cells := 0, slots := 0, locals := 0 } : Room) [.ref h0, .ref h1] [(h0, .inr (8, [.int to, .int ts, .int td, .int tr, .int tf, .int tw])), (h1, .inr (8, [.int zo, .int zs, .int zd, .int zr, .int zf, .int zw]))] (sw_QV G (S := Unit) (fun (_ : Unit) => True) (fun _ => [(h0, .inr (8, [.int to, .int zs, .int zd, .int zr, .int zf, .int zw])), (h1, .inr (8, [.int zo, .int zs, .int zd, .int zr, .int zf, .int zw]))])) 0 0 := by
  refine sw_start (cc := cX8_copyFrom) (maxL := 2) (ret := none) (lv := [(0, .ref h0), (1, .ref h1)]) (own := RX8) (nm := "copyFrom") (by decide +kernel) rfl rfl rfl rfl (Nat.le_of_ble_eq_true rfl) (fun C F T => ?_)
  have in8 : ∀ w ∈ u_ws RX8 TX8 6, w ∈ wsX8_copyFrom := fun w h => List.mem_cons_of_mem _ (List.mem_append_right _ (h))
  refine sw_aload_n (pc := 0) F dX8_copyFrom_0 rfl 0 rfl ?_
  refine sw_aload_n (pc := 1) F dX8_copyFrom_1 rfl 1 rfl ?_
  refine sw_get (pc := 2) (Cn := RX8) (T := TX8) (N := 6) (ci := 8) (v := .int zs) F in8 1 rfl rfl 1 (by decide) rfl (List.mem_of_getElem? (i := 1) rfl) rfl dX8_copyFrom_2 ?_
  refine sw_put (pc := 5) (Cn := RX8) (T := TX8) (N := 6) (ci := 8) (ty0 := tyX8) (ws' := [(h0, .inr (8, [.int to, .int zs, .int td, .int tr, .int tf, .int tw])), (h1, .inr (8, [.int zo, .int zs, .int zd, .int zr, .int zf, .int zw]))]) F in8 tyX8_ok nmX8 0 rfl rfl 1 (by decide) rfl (List.mem_of_getElem? (i := 1) rfl) rfl rfl rfl (Nat.le_of_ble_eq_true rfl) dX8_copyFrom_5 rfl ?_
  refine sw_aload_n (pc := 8) F dX8_copyFrom_8 rfl 0 rfl ?_
  refine sw_aload_n (pc := 9) F dX8_copyFrom_9 rfl 1 rfl ?_
  refine sw_get (pc := 10) (Cn := RX8) (T := TX8) (N := 6) (ci := 8) (v := .int zd) F in8 1 rfl rfl 2 (by decide) rfl (List.mem_of_getElem? (i := 2) rfl) rfl dX8_copyFrom_10 ?_
  refine sw_put (pc := 13) (Cn := RX8) (T := TX8) (N := 6) (ci := 8) (ty0 := tyX8) (ws' := [(h0, .inr (8, [.int to, .int zs, .int zd, .int tr, .int tf, .int tw])), (h1, .inr (8, [.int zo, .int zs, .int zd, .int zr, .int zf, .int zw]))]) F in8 tyX8_ok nmX8 0 rfl rfl 2 (by decide) rfl (List.mem_of_getElem? (i := 2) rfl) rfl rfl rfl (Nat.le_of_ble_eq_true rfl) dX8_copyFrom_13 rfl ?_
  refine sw_aload_n (pc := 16) F dX8_copyFrom_16 rfl 0 rfl ?_
  refine sw_aload_n (pc := 17) F dX8_copyFrom_17 rfl 1 rfl ?_
  refine sw_get (pc := 18) (Cn := RX8) (T := TX8) (N := 6) (ci := 8) (v := .int zr) F in8 1 rfl rfl 3 (by decide) rfl (List.mem_of_getElem? (i := 3) rfl) rfl dX8_copyFrom_18 ?_
  refine sw_put (pc := 21) (Cn := RX8) (T := TX8) (N := 6) (ci := 8) (ty0 := tyX8) (ws' := [(h0, .inr (8, [.int to, .int zs, .int zd, .int zr, .int tf, .int tw])), (h1, .inr (8, [.int zo, .int zs, .int zd, .int zr, .int zf, .int zw]))]) F in8 tyX8_ok nmX8 0 rfl rfl 3 (by decide) rfl (List.mem_of_getElem? (i := 3) rfl) rfl rfl rfl (Nat.le_of_ble_eq_true rfl) dX8_copyFrom_21 rfl ?_
  refine sw_aload_n (pc := 24) F dX8_copyFrom_24 rfl 0 rfl ?_
  refine sw_aload_n (pc := 25) F dX8_copyFrom_25 rfl 1 rfl ?_
  refine sw_get (pc := 26) (Cn := RX8) (T := TX8) (N := 6) (ci := 8) (v := .int zf) F in8 1 rfl rfl 4 (by decide) rfl (List.mem_of_getElem? (i := 4) rfl) rfl dX8_copyFrom_26 ?_
  refine sw_put (pc := 29) (Cn := RX8) (T := TX8) (N := 6) (ci := 8) (ty0 := tyX8) (ws' := [(h0, .inr (8, [.int to, .int zs, .int zd, .int zr, .int zf, .int tw])), (h1, .inr (8, [.int zo, .int zs, .int zd, .int zr, .int zf, .int zw]))]) F in8 tyX8_ok nmX8 0 rfl rfl 4 (by decide) rfl (List.mem_of_getElem? (i := 4) rfl) rfl rfl rfl (Nat.le_of_ble_eq_true rfl) dX8_copyFrom_29 rfl ?_
  refine sw_aload_n (pc := 32) F dX8_copyFrom_32 rfl 0 rfl ?_
  refine sw_aload_n (pc := 33) F dX8_copyFrom_33 rfl 1 rfl ?_
  refine sw_get (pc := 34) (Cn := RX8) (T := TX8) (N := 6) (ci := 8) (v := .int zw) F in8 1 rfl rfl 5 (by decide) rfl (List.mem_of_getElem? (i := 5) rfl) rfl dX8_copyFrom_34 ?_
  refine sw_put (pc := 37) (Cn := RX8) (T := TX8) (N := 6) (ci := 8) (ty0 := tyX8) (ws' := [(h0, .inr (8, [.int to, .int zs, .int zd, .int zr, .int zf, .int zw])), (h1, .inr (8, [.int zo, .int zs, .int zd, .int zr, .int zf, .int zw]))]) F in8 tyX8_ok nmX8 0 rfl rfl 5 (by decide) rfl (List.mem_of_getElem? (i := 5) rfl) rfl (sw_nb hb_zw).1 (sw_nb hb_zw).2 (Nat.le_of_ble_eq_true rfl) dX8_copyFrom_37 rfl ?_
  exact sw_vret (pc := 40) F T () trivial rfl dX8_copyFrom_40
def f_X8_filter_o0_4 (to : Int32) (ts : Int32) (td : Int32) (tr : Int32) (tf : Int32) : Int32 := (tf + (f_J9_floorDiv_7cf53_r ((f_X8_reading_r to ts tr) - tf) (1 <<< (td &&& 31))))
set_option maxHeartbeats 4000000 in
set_option maxRecDepth 100000 in
theorem k_X8_filter (l : Launch) (G : sw_E) (h0 : Nat) (to : Int32) (ts : Int32) (td : Int32) (tr : Int32) (tf : Int32) (tw : Int32) (hd : ¬ ((1 : Int32) <<< (td &&& 31)) = 0) : sw_M l G yX8_filter wsX8_filter ({ frames := 2, cells := 0, slots := 0, locals := 42 } : Room) [.ref h0] [(h0, .inr (8, [.int to, .int ts, .int td, .int tr, .int tf, .int tw]))] (sw_QV G (S := Int32) (fun (u : Int32) => u = f_X8_filter_o0_4 to ts td tr tf) (fun u => [(h0, .inr (8, [.int to, .int ts, .int td, .int tr, .int u, .int tw]))])) 0 0 := by
  refine sw_start (cc := cX8_filter) (maxL := 1) (ret := none) (lv := [(0, .ref h0)]) (own := RX8) (nm := "filter") (by decide +kernel) rfl rfl rfl rfl (Nat.le_of_ble_eq_true rfl) (fun C F T => ?_)
  have in8 : ∀ w ∈ u_ws RX8 TX8 6, w ∈ wsX8_filter := fun w h => List.mem_cons_of_mem _ (List.mem_append_right _ (h))
  refine sw_aload_n (pc := 0) F dX8_filter_0 rfl 0 rfl ?_
  refine sw_dup (pc := 1) F dX8_filter_1 rfl ?_
  refine sw_get (pc := 2) (Cn := RX8) (T := TX8) (N := 6) (ci := 8) (v := .int tf) F in8 0 rfl rfl 4 (by decide) rfl (List.mem_of_getElem? (i := 1) rfl) rfl dX8_filter_2 ?_
  refine sw_aload_n (pc := 5) F dX8_filter_5 rfl 0 rfl ?_
  refine sw_calli (pc := 6) (wr := []) (k' := 0) (n' := 0) F (sw_runV (R := ({ frames := 2, cells := 0, slots := 0, locals := 42 } : Room)) (q0 := 0) (na := 0) F T.2.1 T.2.2.1 (k_X8_reading l G h0 to ts td tr tf tw) [0] rfl (by decide) gX8_filter_X8_reading rfl rfl rfl (by decide +kernel) ⟨Nat.le_of_ble_eq_true rfl, Nat.le_of_ble_eq_true rfl⟩ rfl rfl rfl rfl rfl (Nat.le_of_ble_eq_true rfl) dX8_filter_6 (Nat.le_of_ble_eq_true rfl) (Nat.le_of_ble_eq_true rfl)) [0] [] rfl rfl (by decide) (by decide) rfl rfl (fun r_1 u_2 h_3 => ?_)
  have e_4 : r_1 = f_X8_reading_r to ts tr := h_3
  refine sw_eq (ws' := [(h0, .inr (8, [.int to, .int ts, .int td, .int tr, .int tf, .int tw]))]) (lv' := [(0, .ref h0)]) (st' := [.int r_1, .int tf, .ref h0]) rfl rfl rfl ?_
  refine sw_aload_n (pc := 9) F dX8_filter_9 rfl 0 rfl ?_
  refine sw_get (pc := 10) (Cn := RX8) (T := TX8) (N := 6) (ci := 8) (v := .int tf) F in8 0 rfl rfl 4 (by decide) rfl (List.mem_of_getElem? (i := 1) rfl) rfl dX8_filter_10 ?_
  refine sw_isub (pc := 13) F dX8_filter_13 ?_
  refine sw_topi (fun x_5 ex_5 => ?_)
  refine sw_iconst (pc := 14) (v := 1) F dX8_filter_14 rfl ?_
  refine sw_aload_n (pc := 15) F dX8_filter_15 rfl 0 rfl ?_
  refine sw_get (pc := 16) (Cn := RX8) (T := TX8) (N := 6) (ci := 8) (v := .int td) F in8 0 rfl rfl 2 (by decide) rfl (List.mem_of_getElem? (i := 2) rfl) rfl dX8_filter_16 ?_
  refine sw_ishl (pc := 19) F dX8_filter_19 ?_
  refine sw_topi (fun x_6 ex_6 => ?_)
  refine sw_calli (pc := 20) (wr := [(h0, .inr (8, [.int to, .int ts, .int td, .int tr, .int tf, .int tw]))]) (k' := 0) (n' := 0) F (sw_runS (R := ({ frames := 2, cells := 0, slots := 0, locals := 42 } : Room)) (na := 2) F T.2.1 T.2.2.1 (k_J9_floorDiv_7cf53 l G x_5 x_6 (by subst_vars; exact hd)) [] rfl (by decide) gX8_filter_J9_floorDiv_7cf53 rfl rfl rfl (by decide +kernel) ⟨Nat.le_of_ble_eq_true rfl, Nat.le_of_ble_eq_true rfl⟩ rfl rfl (Nat.le_of_ble_eq_true rfl) dX8_filter_20 (Nat.le_of_ble_eq_true rfl) (Nat.le_of_ble_eq_true rfl)) [] [0] rfl rfl (by decide) (by decide) rfl rfl (fun r_7 u_8 h_9 => ?_)
  have e_10 : r_7 = f_J9_floorDiv_7cf53_r x_5 x_6 := h_9
  refine sw_eq (ws' := [(h0, .inr (8, [.int to, .int ts, .int td, .int tr, .int tf, .int tw]))]) (lv' := [(0, .ref h0)]) (st' := [.int r_7, .int tf, .ref h0]) rfl rfl rfl ?_
  refine sw_iadd (pc := 23) F dX8_filter_23 ?_
  refine sw_topi (fun x_11 ex_11 => ?_)
  refine sw_put (pc := 24) (Cn := RX8) (T := TX8) (N := 6) (ci := 8) (ty0 := tyX8) (ws' := [(h0, .inr (8, [.int to, .int ts, .int td, .int tr, .int x_11, .int tw]))]) F in8 tyX8_ok nmX8 0 rfl rfl 4 (by decide) rfl (List.mem_of_getElem? (i := 1) rfl) rfl rfl rfl (Nat.le_of_ble_eq_true rfl) dX8_filter_24 rfl ?_
  subst ex_11
  subst e_10
  subst ex_6
  subst ex_5
  subst e_4
  exact sw_vret (pc := 27) F T ((tf + (f_J9_floorDiv_7cf53_r ((f_X8_reading_r to ts tr) - tf) (1 <<< (td &&& 31))))) rfl rfl dX8_filter_27
def f_X9_hashed_r (a : Int64) (b : Int64) : Int64 := ((31 * a) + b)
set_option maxHeartbeats 4000000 in
set_option maxRecDepth 100000 in
theorem k_X9_hashed (l : Launch) (G : sw_E) (a : Int64) (b : Int64)  : sw_M l G yX9_hashed wsX9_hashed ({ frames := 0, cells := 0, slots := 0, locals := 0 } : Room) [.long a, .long b] [] (sw_QL G (S := Unit) (fun (r : Int64) (_ : Unit) => r = f_X9_hashed_r a b) (fun _ => [])) 0 0 := by
  refine sw_start (cc := cX9_hashed) (maxL := 4) (ret := some .long) (lv := [(0, .long a), (2, .long b)]) (own := RX9) (nm := "hashed") (by decide +kernel) rfl rfl rfl rfl (Nat.le_of_ble_eq_true rfl) (fun C F T => ?_)
  refine sw_ldc2 (pc := 0) (v := 31) F (List.mem_of_getElem? (i := 1) rfl) dX9_hashed_0 ?_
  refine sw_lload_n (pc := 3) F dX9_hashed_3 rfl 0 rfl ?_
  refine sw_lmul (pc := 4) F dX9_hashed_4 ?_
  refine sw_topl (fun x_1 ex_1 => ?_)
  refine sw_lload_n (pc := 5) F dX9_hashed_5 rfl 1 rfl ?_
  refine sw_ladd (pc := 6) F dX9_hashed_6 ?_
  refine sw_topl (fun x_2 ex_2 => ?_)
  subst ex_2
  subst ex_1
  exact sw_lret (pc := 7) F T () rfl rfl dX9_hashed_7
def f_X8_hashAfter_r (ts : Int32) (td : Int32) (tr : Int32) (tf : Int32) (a : Int64) : Int64 := (f_X9_hashed_r (f_X9_hashed_r (f_X9_hashed_r (f_X9_hashed_r a ts.toInt64) td.toInt64) tr.toInt64) tf.toInt64)
set_option maxHeartbeats 4000000 in
set_option maxRecDepth 100000 in
theorem k_X8_hashAfter (l : Launch) (G : sw_E) (h0 : Nat) (to : Int32) (ts : Int32) (td : Int32) (tr : Int32) (tf : Int32) (tw : Int32) (a : Int64)  : sw_M l G yX8_hashAfter wsX8_hashAfter ({ frames := 1, cells := 0, slots := 0, locals := 23 } : Room) [.ref h0, .long a] [(h0, .inr (8, [.int to, .int ts, .int td, .int tr, .int tf, .int tw]))] (sw_QL G (S := Unit) (fun (r : Int64) (_ : Unit) => r = f_X8_hashAfter_r ts td tr tf a) (fun _ => [(h0, .inr (8, [.int to, .int ts, .int td, .int tr, .int tf, .int tw]))])) 0 0 := by
  refine sw_start (cc := cX8_hashAfter) (maxL := 5) (ret := some .long) (lv := [(0, .ref h0), (1, .long a)]) (own := RX8) (nm := "hashAfter") (by decide +kernel) rfl rfl rfl rfl (Nat.le_of_ble_eq_true rfl) (fun C F T => ?_)
  have in8 : ∀ w ∈ u_ws RX8 TX8 6, w ∈ wsX8_hashAfter := fun w h => List.mem_cons_of_mem _ (List.mem_append_right _ (h))
  refine sw_lload_n (pc := 0) F dX8_hashAfter_0 rfl 1 rfl ?_
  refine sw_aload_n (pc := 1) F dX8_hashAfter_1 rfl 0 rfl ?_
  refine sw_get (pc := 2) (Cn := RX8) (T := TX8) (N := 6) (ci := 8) (v := .int ts) F in8 0 rfl rfl 1 (by decide) rfl (List.mem_of_getElem? (i := 1) rfl) rfl dX8_hashAfter_2 ?_
  refine sw_i2l (pc := 5) F dX8_hashAfter_5 rfl ?_
  refine sw_calll (pc := 6) (wr := [(h0, .inr (8, [.int to, .int ts, .int td, .int tr, .int tf, .int tw]))]) (k' := 0) (n' := 0) F (sw_runSN (R := ({ frames := 1, cells := 0, slots := 0, locals := 23 } : Room)) (na := 2) F T.2.1 T.2.2.1 (k_X9_hashed l G a ts.toInt64) [] rfl (by decide) gX8_hashAfter_X9_hashed_n42 rfl rfl rfl (List.mem_of_getElem? (i := 6) rfl) (List.mem_of_getElem? (i := 8) rfl) (List.mem_of_getElem? (i := 5) rfl) (by decide +kernel) ⟨Nat.le_of_ble_eq_true rfl, Nat.le_of_ble_eq_true rfl⟩ rfl rfl (Nat.le_of_ble_eq_true rfl) dX8_hashAfter_6 (Nat.le_of_ble_eq_true rfl) (Nat.le_of_ble_eq_true rfl)) [] [0] rfl rfl (by decide) (by decide) rfl rfl (fun r_1 u_2 h_3 => ?_)
  have e_4 : r_1 = f_X9_hashed_r a ts.toInt64 := h_3
  refine sw_eq (ws' := [(h0, .inr (8, [.int to, .int ts, .int td, .int tr, .int tf, .int tw]))]) (lv' := [(0, .ref h0), (1, .long a)]) (st' := [.long r_1]) rfl rfl rfl ?_
  refine sw_lstore_n (pc := 9) (lv' := [(3, .long r_1), (0, .ref h0), (1, .long a)]) F T.1 dX8_hashAfter_9 rfl (by decide) rfl ?_
  refine sw_lload_n (pc := 10) F dX8_hashAfter_10 rfl 0 rfl ?_
  refine sw_aload_n (pc := 11) F dX8_hashAfter_11 rfl 1 rfl ?_
  refine sw_get (pc := 12) (Cn := RX8) (T := TX8) (N := 6) (ci := 8) (v := .int td) F in8 0 rfl rfl 2 (by decide) rfl (List.mem_of_getElem? (i := 2) rfl) rfl dX8_hashAfter_12 ?_
  refine sw_i2l (pc := 15) F dX8_hashAfter_15 rfl ?_
  refine sw_calll (pc := 16) (wr := [(h0, .inr (8, [.int to, .int ts, .int td, .int tr, .int tf, .int tw]))]) (k' := 0) (n' := 0) F (sw_runSN (R := ({ frames := 1, cells := 0, slots := 0, locals := 23 } : Room)) (na := 2) F T.2.1 T.2.2.1 (k_X9_hashed l G r_1 td.toInt64) [] rfl (by decide) gX8_hashAfter_X9_hashed_n42 rfl rfl rfl (List.mem_of_getElem? (i := 6) rfl) (List.mem_of_getElem? (i := 8) rfl) (List.mem_of_getElem? (i := 5) rfl) (by decide +kernel) ⟨Nat.le_of_ble_eq_true rfl, Nat.le_of_ble_eq_true rfl⟩ rfl rfl (Nat.le_of_ble_eq_true rfl) dX8_hashAfter_16 (Nat.le_of_ble_eq_true rfl) (Nat.le_of_ble_eq_true rfl)) [] [0] rfl rfl (by decide) (by decide) rfl rfl (fun r_5 u_6 h_7 => ?_)
  have e_8 : r_5 = f_X9_hashed_r r_1 td.toInt64 := h_7
  refine sw_eq (ws' := [(h0, .inr (8, [.int to, .int ts, .int td, .int tr, .int tf, .int tw]))]) (lv' := [(3, .long r_1), (0, .ref h0), (1, .long a)]) (st' := [.long r_5]) rfl rfl rfl ?_
  refine sw_lstore_n (pc := 19) (lv' := [(3, .long r_5), (0, .ref h0), (1, .long a)]) F T.1 dX8_hashAfter_19 rfl (by decide) rfl ?_
  refine sw_lload_n (pc := 20) F dX8_hashAfter_20 rfl 0 rfl ?_
  refine sw_aload_n (pc := 21) F dX8_hashAfter_21 rfl 1 rfl ?_
  refine sw_get (pc := 22) (Cn := RX8) (T := TX8) (N := 6) (ci := 8) (v := .int tr) F in8 0 rfl rfl 3 (by decide) rfl (List.mem_of_getElem? (i := 3) rfl) rfl dX8_hashAfter_22 ?_
  refine sw_i2l (pc := 25) F dX8_hashAfter_25 rfl ?_
  refine sw_calll (pc := 26) (wr := [(h0, .inr (8, [.int to, .int ts, .int td, .int tr, .int tf, .int tw]))]) (k' := 0) (n' := 0) F (sw_runSN (R := ({ frames := 1, cells := 0, slots := 0, locals := 23 } : Room)) (na := 2) F T.2.1 T.2.2.1 (k_X9_hashed l G r_5 tr.toInt64) [] rfl (by decide) gX8_hashAfter_X9_hashed_n42 rfl rfl rfl (List.mem_of_getElem? (i := 6) rfl) (List.mem_of_getElem? (i := 8) rfl) (List.mem_of_getElem? (i := 5) rfl) (by decide +kernel) ⟨Nat.le_of_ble_eq_true rfl, Nat.le_of_ble_eq_true rfl⟩ rfl rfl (Nat.le_of_ble_eq_true rfl) dX8_hashAfter_26 (Nat.le_of_ble_eq_true rfl) (Nat.le_of_ble_eq_true rfl)) [] [0] rfl rfl (by decide) (by decide) rfl rfl (fun r_9 u_10 h_11 => ?_)
  have e_12 : r_9 = f_X9_hashed_r r_5 tr.toInt64 := h_11
  refine sw_eq (ws' := [(h0, .inr (8, [.int to, .int ts, .int td, .int tr, .int tf, .int tw]))]) (lv' := [(3, .long r_5), (0, .ref h0), (1, .long a)]) (st' := [.long r_9]) rfl rfl rfl ?_
  refine sw_lstore_n (pc := 29) (lv' := [(3, .long r_9), (0, .ref h0), (1, .long a)]) F T.1 dX8_hashAfter_29 rfl (by decide) rfl ?_
  refine sw_lload_n (pc := 30) F dX8_hashAfter_30 rfl 0 rfl ?_
  refine sw_aload_n (pc := 31) F dX8_hashAfter_31 rfl 1 rfl ?_
  refine sw_get (pc := 32) (Cn := RX8) (T := TX8) (N := 6) (ci := 8) (v := .int tf) F in8 0 rfl rfl 4 (by decide) rfl (List.mem_of_getElem? (i := 4) rfl) rfl dX8_hashAfter_32 ?_
  refine sw_i2l (pc := 35) F dX8_hashAfter_35 rfl ?_
  refine sw_calll (pc := 36) (wr := [(h0, .inr (8, [.int to, .int ts, .int td, .int tr, .int tf, .int tw]))]) (k' := 0) (n' := 0) F (sw_runSN (R := ({ frames := 1, cells := 0, slots := 0, locals := 23 } : Room)) (na := 2) F T.2.1 T.2.2.1 (k_X9_hashed l G r_9 tf.toInt64) [] rfl (by decide) gX8_hashAfter_X9_hashed_n42 rfl rfl rfl (List.mem_of_getElem? (i := 6) rfl) (List.mem_of_getElem? (i := 8) rfl) (List.mem_of_getElem? (i := 5) rfl) (by decide +kernel) ⟨Nat.le_of_ble_eq_true rfl, Nat.le_of_ble_eq_true rfl⟩ rfl rfl (Nat.le_of_ble_eq_true rfl) dX8_hashAfter_36 (Nat.le_of_ble_eq_true rfl) (Nat.le_of_ble_eq_true rfl)) [] [0] rfl rfl (by decide) (by decide) rfl rfl (fun r_13 u_14 h_15 => ?_)
  have e_16 : r_13 = f_X9_hashed_r r_9 tf.toInt64 := h_15
  refine sw_eq (ws' := [(h0, .inr (8, [.int to, .int ts, .int td, .int tr, .int tf, .int tw]))]) (lv' := [(3, .long r_9), (0, .ref h0), (1, .long a)]) (st' := [.long r_13]) rfl rfl rfl ?_
  subst e_16
  subst e_12
  subst e_8
  subst e_4
  exact sw_lret (pc := 39) F T () rfl rfl dX8_hashAfter_39
set_option maxHeartbeats 4000000 in
set_option maxRecDepth 100000 in
theorem k_X7_init (l : Launch) (G : sw_E) (h0 : Nat) (sn : Int32) (sd : Int64) (sp : Int64) (st : Int64)  : sw_M l G yX7_init wsX7_init ({ frames := 1, cells := 0, slots := 0, locals := 12 } : Room) [.ref h0] [(h0, .inr (7, [.int sn, .long sd, .long sp, .long st]))] (sw_QV G (S := Unit) (fun (_ : Unit) => True) (fun _ => [(h0, .inr (7, [.int sn, .long sd, .long sp, .long st]))])) 0 0 := by
  refine sw_start (cc := cX7_init) (maxL := 1) (ret := none) (lv := [(0, .ref h0)]) (own := RX7) (nm := "<init>") (by decide +kernel) rfl rfl rfl rfl (Nat.le_of_ble_eq_true rfl) (fun C F T => ?_)
  refine sw_aload_n (pc := 0) F dX7_init_0 rfl 0 rfl ?_
  refine sw_objInit (pc := 1) (rm := ({ frames := 1, cells := 0, slots := 0, locals := 12 } : Room)) F T.2.1 (List.mem_of_getElem? (i := 1) rfl) (List.mem_of_getElem? (i := 2) rfl) (List.mem_of_getElem? (i := 3) rfl) dX7_init_1 (Nat.le_of_ble_eq_true rfl) (Nat.le_of_ble_eq_true rfl) ?_
  exact sw_vret (pc := 4) F T () trivial rfl dX7_init_4
set_option maxHeartbeats 4000000 in
set_option maxRecDepth 100000 in
theorem k_X7_copyFrom (l : Launch) (G : sw_E) (h0 : Nat) (h1 : Nat) (sn : Int32) (sd : Int64) (sp : Int64) (st : Int64) (zn : Int32) (zd : Int64) (zp : Int64) (zt : Int64)  : sw_M l G yX7_copyFrom wsX7_copyFrom ({ frames := 0, cells := 0, slots := 0, locals := 0 } : Room) [.ref h0, .ref h1] [(h0, .inr (7, [.int sn, .long sd, .long sp, .long st])), (h1, .inr (7, [.int zn, .long zd, .long zp, .long zt]))] (sw_QV G (S := Unit) (fun (_ : Unit) => True) (fun _ => [(h0, .inr (7, [.int zn, .long zd, .long zp, .long zt])), (h1, .inr (7, [.int zn, .long zd, .long zp, .long zt]))])) 0 0 := by
  refine sw_start (cc := cX7_copyFrom) (maxL := 2) (ret := none) (lv := [(0, .ref h0), (1, .ref h1)]) (own := RX7) (nm := "copyFrom") (by decide +kernel) rfl rfl rfl rfl (Nat.le_of_ble_eq_true rfl) (fun C F T => ?_)
  have in7 : ∀ w ∈ u_ws RX7 TX7 4, w ∈ wsX7_copyFrom := fun w h => List.mem_cons_of_mem _ (List.mem_append_right _ (h))
  refine sw_aload_n (pc := 0) F dX7_copyFrom_0 rfl 0 rfl ?_
  refine sw_aload_n (pc := 1) F dX7_copyFrom_1 rfl 1 rfl ?_
  refine sw_get (pc := 2) (Cn := RX7) (T := TX7) (N := 4) (ci := 7) (v := .int zn) F in7 1 rfl rfl 0 (by decide) rfl (List.mem_of_getElem? (i := 1) rfl) rfl dX7_copyFrom_2 ?_
  refine sw_put (pc := 5) (Cn := RX7) (T := TX7) (N := 4) (ci := 7) (ty0 := tyX7) (ws' := [(h0, .inr (7, [.int zn, .long sd, .long sp, .long st])), (h1, .inr (7, [.int zn, .long zd, .long zp, .long zt]))]) F in7 tyX7_ok nmX7 0 rfl rfl 0 (by decide) rfl (List.mem_of_getElem? (i := 1) rfl) rfl rfl rfl (Nat.le_of_ble_eq_true rfl) dX7_copyFrom_5 rfl ?_
  refine sw_aload_n (pc := 8) F dX7_copyFrom_8 rfl 0 rfl ?_
  refine sw_aload_n (pc := 9) F dX7_copyFrom_9 rfl 1 rfl ?_
  refine sw_get (pc := 10) (Cn := RX7) (T := TX7) (N := 4) (ci := 7) (v := .long zd) F in7 1 rfl rfl 1 (by decide) rfl (List.mem_of_getElem? (i := 2) rfl) rfl dX7_copyFrom_10 ?_
  refine sw_put (pc := 13) (Cn := RX7) (T := TX7) (N := 4) (ci := 7) (ty0 := tyX7) (ws' := [(h0, .inr (7, [.int zn, .long zd, .long sp, .long st])), (h1, .inr (7, [.int zn, .long zd, .long zp, .long zt]))]) F in7 tyX7_ok nmX7 0 rfl rfl 1 (by decide) rfl (List.mem_of_getElem? (i := 2) rfl) rfl rfl rfl (Nat.le_of_ble_eq_true rfl) dX7_copyFrom_13 rfl ?_
  refine sw_aload_n (pc := 16) F dX7_copyFrom_16 rfl 0 rfl ?_
  refine sw_aload_n (pc := 17) F dX7_copyFrom_17 rfl 1 rfl ?_
  refine sw_get (pc := 18) (Cn := RX7) (T := TX7) (N := 4) (ci := 7) (v := .long zp) F in7 1 rfl rfl 2 (by decide) rfl (List.mem_of_getElem? (i := 3) rfl) rfl dX7_copyFrom_18 ?_
  refine sw_put (pc := 21) (Cn := RX7) (T := TX7) (N := 4) (ci := 7) (ty0 := tyX7) (ws' := [(h0, .inr (7, [.int zn, .long zd, .long zp, .long st])), (h1, .inr (7, [.int zn, .long zd, .long zp, .long zt]))]) F in7 tyX7_ok nmX7 0 rfl rfl 2 (by decide) rfl (List.mem_of_getElem? (i := 3) rfl) rfl rfl rfl (Nat.le_of_ble_eq_true rfl) dX7_copyFrom_21 rfl ?_
  refine sw_aload_n (pc := 24) F dX7_copyFrom_24 rfl 0 rfl ?_
  refine sw_aload_n (pc := 25) F dX7_copyFrom_25 rfl 1 rfl ?_
  refine sw_get (pc := 26) (Cn := RX7) (T := TX7) (N := 4) (ci := 7) (v := .long zt) F in7 1 rfl rfl 3 (by decide) rfl (List.mem_of_getElem? (i := 4) rfl) rfl dX7_copyFrom_26 ?_
  refine sw_put (pc := 29) (Cn := RX7) (T := TX7) (N := 4) (ci := 7) (ty0 := tyX7) (ws' := [(h0, .inr (7, [.int zn, .long zd, .long zp, .long zt])), (h1, .inr (7, [.int zn, .long zd, .long zp, .long zt]))]) F in7 tyX7_ok nmX7 0 rfl rfl 3 (by decide) rfl (List.mem_of_getElem? (i := 4) rfl) rfl rfl rfl (Nat.le_of_ble_eq_true rfl) dX7_copyFrom_29 rfl ?_
  exact sw_vret (pc := 32) F T () trivial rfl dX7_copyFrom_32
set_option maxHeartbeats 4000000 in
set_option maxRecDepth 100000 in
theorem k_X7_clear (l : Launch) (G : sw_E) (h0 : Nat) (sn : Int32) (sd : Int64) (sp : Int64) (st : Int64)  : sw_M l G yX7_clear wsX7_clear ({ frames := 0, cells := 0, slots := 0, locals := 0 } : Room) [.ref h0] [(h0, .inr (7, [.int sn, .long sd, .long sp, .long st]))] (sw_QV G (S := Unit) (fun (_ : Unit) => True) (fun _ => [(h0, .inr (7, [.int 0, .long 0, .long 0, .long 0]))])) 0 0 := by
  refine sw_start (cc := cX7_clear) (maxL := 1) (ret := none) (lv := [(0, .ref h0)]) (own := RX7) (nm := "clear") (by decide +kernel) rfl rfl rfl rfl (Nat.le_of_ble_eq_true rfl) (fun C F T => ?_)
  have in7 : ∀ w ∈ u_ws RX7 TX7 4, w ∈ wsX7_clear := fun w h => List.mem_cons_of_mem _ (List.mem_append_right _ (h))
  refine sw_aload_n (pc := 0) F dX7_clear_0 rfl 0 rfl ?_
  refine sw_iconst (pc := 1) (v := 0) F dX7_clear_1 rfl ?_
  refine sw_put (pc := 2) (Cn := RX7) (T := TX7) (N := 4) (ci := 7) (ty0 := tyX7) (ws' := [(h0, .inr (7, [.int 0, .long sd, .long sp, .long st]))]) F in7 tyX7_ok nmX7 0 rfl rfl 0 (by decide) rfl (List.mem_of_getElem? (i := 1) rfl) rfl rfl rfl (Nat.le_of_ble_eq_true rfl) dX7_clear_2 rfl ?_
  refine sw_aload_n (pc := 5) F dX7_clear_5 rfl 0 rfl ?_
  refine sw_lconst (pc := 6) (v := 0) F dX7_clear_6 rfl ?_
  refine sw_put (pc := 7) (Cn := RX7) (T := TX7) (N := 4) (ci := 7) (ty0 := tyX7) (ws' := [(h0, .inr (7, [.int 0, .long 0, .long sp, .long st]))]) F in7 tyX7_ok nmX7 0 rfl rfl 1 (by decide) rfl (List.mem_of_getElem? (i := 2) rfl) rfl rfl rfl (Nat.le_of_ble_eq_true rfl) dX7_clear_7 rfl ?_
  refine sw_aload_n (pc := 10) F dX7_clear_10 rfl 0 rfl ?_
  refine sw_lconst (pc := 11) (v := 0) F dX7_clear_11 rfl ?_
  refine sw_put (pc := 12) (Cn := RX7) (T := TX7) (N := 4) (ci := 7) (ty0 := tyX7) (ws' := [(h0, .inr (7, [.int 0, .long 0, .long 0, .long st]))]) F in7 tyX7_ok nmX7 0 rfl rfl 2 (by decide) rfl (List.mem_of_getElem? (i := 3) rfl) rfl rfl rfl (Nat.le_of_ble_eq_true rfl) dX7_clear_12 rfl ?_
  refine sw_aload_n (pc := 15) F dX7_clear_15 rfl 0 rfl ?_
  refine sw_lconst (pc := 16) (v := 0) F dX7_clear_16 rfl ?_
  refine sw_put (pc := 17) (Cn := RX7) (T := TX7) (N := 4) (ci := 7) (ty0 := tyX7) (ws' := [(h0, .inr (7, [.int 0, .long 0, .long 0, .long 0]))]) F in7 tyX7_ok nmX7 0 rfl rfl 3 (by decide) rfl (List.mem_of_getElem? (i := 4) rfl) rfl rfl rfl (Nat.le_of_ble_eq_true rfl) dX7_clear_17 rfl ?_
  exact sw_vret (pc := 20) F T () trivial rfl dX7_clear_20
def f_X7_add_o0_0 (sn : Int32) : Int32 := (sn + 1)
def f_X7_add_o0_1 (sd : Int64) (a : Int32) : Int64 := (sd + a.toInt64)
def f_X7_add_o0_2 (sp : Int64) (b : Int32) : Int64 := (sp + b.toInt64)
def f_X7_add_o0_3 (st : Int64) (c : Int32) : Int64 := (st + c.toInt64)
set_option maxHeartbeats 4000000 in
set_option maxRecDepth 100000 in
theorem k_X7_add (l : Launch) (G : sw_E) (h0 : Nat) (sn : Int32) (sd : Int64) (sp : Int64) (st : Int64) (a : Int32) (b : Int32) (c : Int32)  : sw_M l G yX7_add wsX7_add ({ frames := 0, cells := 0, slots := 0, locals := 0 } : Room) [.ref h0, .int a, .int b, .int c] [(h0, .inr (7, [.int sn, .long sd, .long sp, .long st]))] (sw_QV G (S := Int32 × Int64 × Int64 × Int64) (fun (u : Int32 × Int64 × Int64 × Int64) => u.1 = f_X7_add_o0_0 sn ∧ u.2.1 = f_X7_add_o0_1 sd a ∧ u.2.2.1 = f_X7_add_o0_2 sp b ∧ u.2.2.2 = f_X7_add_o0_3 st c) (fun u => [(h0, .inr (7, [.int u.1, .long u.2.1, .long u.2.2.1, .long u.2.2.2]))])) 0 0 := by
  refine sw_start (cc := cX7_add) (maxL := 4) (ret := none) (lv := [(0, .ref h0), (1, .int a), (2, .int b), (3, .int c)]) (own := RX7) (nm := "add") (by decide +kernel) rfl rfl rfl rfl (Nat.le_of_ble_eq_true rfl) (fun C F T => ?_)
  have in7 : ∀ w ∈ u_ws RX7 TX7 4, w ∈ wsX7_add := fun w h => List.mem_cons_of_mem _ (List.mem_append_right _ (h))
  refine sw_aload_n (pc := 0) F dX7_add_0 rfl 0 rfl ?_
  refine sw_dup (pc := 1) F dX7_add_1 rfl ?_
  refine sw_get (pc := 2) (Cn := RX7) (T := TX7) (N := 4) (ci := 7) (v := .int sn) F in7 0 rfl rfl 0 (by decide) rfl (List.mem_of_getElem? (i := 1) rfl) rfl dX7_add_2 ?_
  refine sw_iconst (pc := 5) (v := 1) F dX7_add_5 rfl ?_
  refine sw_iadd (pc := 6) F dX7_add_6 ?_
  refine sw_topi (fun x_1 ex_1 => ?_)
  refine sw_put (pc := 7) (Cn := RX7) (T := TX7) (N := 4) (ci := 7) (ty0 := tyX7) (ws' := [(h0, .inr (7, [.int x_1, .long sd, .long sp, .long st]))]) F in7 tyX7_ok nmX7 0 rfl rfl 0 (by decide) rfl (List.mem_of_getElem? (i := 1) rfl) rfl rfl rfl (Nat.le_of_ble_eq_true rfl) dX7_add_7 rfl ?_
  refine sw_aload_n (pc := 10) F dX7_add_10 rfl 0 rfl ?_
  refine sw_dup (pc := 11) F dX7_add_11 rfl ?_
  refine sw_get (pc := 12) (Cn := RX7) (T := TX7) (N := 4) (ci := 7) (v := .long sd) F in7 0 rfl rfl 1 (by decide) rfl (List.mem_of_getElem? (i := 2) rfl) rfl dX7_add_12 ?_
  refine sw_iload_n (pc := 15) F dX7_add_15 rfl 1 rfl ?_
  refine sw_i2l (pc := 16) F dX7_add_16 rfl ?_
  refine sw_ladd (pc := 17) F dX7_add_17 ?_
  refine sw_topl (fun x_2 ex_2 => ?_)
  refine sw_put (pc := 18) (Cn := RX7) (T := TX7) (N := 4) (ci := 7) (ty0 := tyX7) (ws' := [(h0, .inr (7, [.int x_1, .long x_2, .long sp, .long st]))]) F in7 tyX7_ok nmX7 0 rfl rfl 1 (by decide) rfl (List.mem_of_getElem? (i := 2) rfl) rfl rfl rfl (Nat.le_of_ble_eq_true rfl) dX7_add_18 rfl ?_
  refine sw_aload_n (pc := 21) F dX7_add_21 rfl 0 rfl ?_
  refine sw_dup (pc := 22) F dX7_add_22 rfl ?_
  refine sw_get (pc := 23) (Cn := RX7) (T := TX7) (N := 4) (ci := 7) (v := .long sp) F in7 0 rfl rfl 2 (by decide) rfl (List.mem_of_getElem? (i := 3) rfl) rfl dX7_add_23 ?_
  refine sw_iload_n (pc := 26) F dX7_add_26 rfl 2 rfl ?_
  refine sw_i2l (pc := 27) F dX7_add_27 rfl ?_
  refine sw_ladd (pc := 28) F dX7_add_28 ?_
  refine sw_topl (fun x_3 ex_3 => ?_)
  refine sw_put (pc := 29) (Cn := RX7) (T := TX7) (N := 4) (ci := 7) (ty0 := tyX7) (ws' := [(h0, .inr (7, [.int x_1, .long x_2, .long x_3, .long st]))]) F in7 tyX7_ok nmX7 0 rfl rfl 2 (by decide) rfl (List.mem_of_getElem? (i := 3) rfl) rfl rfl rfl (Nat.le_of_ble_eq_true rfl) dX7_add_29 rfl ?_
  refine sw_aload_n (pc := 32) F dX7_add_32 rfl 0 rfl ?_
  refine sw_dup (pc := 33) F dX7_add_33 rfl ?_
  refine sw_get (pc := 34) (Cn := RX7) (T := TX7) (N := 4) (ci := 7) (v := .long st) F in7 0 rfl rfl 3 (by decide) rfl (List.mem_of_getElem? (i := 4) rfl) rfl dX7_add_34 ?_
  refine sw_iload_n (pc := 37) F dX7_add_37 rfl 3 rfl ?_
  refine sw_i2l (pc := 38) F dX7_add_38 rfl ?_
  refine sw_ladd (pc := 39) F dX7_add_39 ?_
  refine sw_topl (fun x_4 ex_4 => ?_)
  refine sw_put (pc := 40) (Cn := RX7) (T := TX7) (N := 4) (ci := 7) (ty0 := tyX7) (ws' := [(h0, .inr (7, [.int x_1, .long x_2, .long x_3, .long x_4]))]) F in7 tyX7_ok nmX7 0 rfl rfl 3 (by decide) rfl (List.mem_of_getElem? (i := 4) rfl) rfl rfl rfl (Nat.le_of_ble_eq_true rfl) dX7_add_40 rfl ?_
  subst ex_4
  subst ex_3
  subst ex_2
  subst ex_1
  exact sw_vret (pc := 43) F T ((sn + 1), (sd + a.toInt64), (sp + b.toInt64), (st + c.toInt64)) ⟨rfl, rfl, rfl, rfl⟩ rfl dX7_add_43
set_option maxHeartbeats 4000000 in
set_option maxRecDepth 100000 in
theorem k_X1_init (l : Launch) (G : sw_E) (h0 : Nat) (cf : Int32) (cn : Int32) (cw : Int32)  : sw_M l G yX1_init wsX1_init ({ frames := 1, cells := 0, slots := 0, locals := 12 } : Room) [.ref h0] [(h0, .inr (1, [.int cf, .int cn, .int cw]))] (sw_QV G (S := Unit) (fun (_ : Unit) => True) (fun _ => [(h0, .inr (1, [.int cf, .int cn, .int 1]))])) 0 0 := by
  refine sw_start (cc := cX1_init) (maxL := 1) (ret := none) (lv := [(0, .ref h0)]) (own := RX1) (nm := "<init>") (by decide +kernel) rfl rfl rfl rfl (Nat.le_of_ble_eq_true rfl) (fun C F T => ?_)
  have in1 : ∀ w ∈ u_ws RX1 TX1 3, w ∈ wsX1_init := fun w h => List.mem_cons_of_mem _ (List.mem_append_right _ (h))
  refine sw_aload_n (pc := 0) F dX1_init_0 rfl 0 rfl ?_
  refine sw_objInit (pc := 1) (rm := ({ frames := 1, cells := 0, slots := 0, locals := 12 } : Room)) F T.2.1 (List.mem_of_getElem? (i := 1) rfl) (List.mem_of_getElem? (i := 2) rfl) (List.mem_of_getElem? (i := 3) rfl) dX1_init_1 (Nat.le_of_ble_eq_true rfl) (Nat.le_of_ble_eq_true rfl) ?_
  refine sw_aload_n (pc := 4) F dX1_init_4 rfl 0 rfl ?_
  refine sw_iconst (pc := 5) (v := 1) F dX1_init_5 rfl ?_
  refine sw_put (pc := 6) (Cn := RX1) (T := TX1) (N := 3) (ci := 1) (ty0 := tyX1) (ws' := [(h0, .inr (1, [.int cf, .int cn, .int 1]))]) F in1 tyX1_ok nmX1 0 rfl rfl 2 (by decide) rfl (List.mem_of_getElem? (i := 4) rfl) rfl rfl rfl (Nat.le_of_ble_eq_true rfl) dX1_init_6 rfl ?_
  exact sw_vret (pc := 9) F T () trivial rfl dX1_init_9
set_option maxHeartbeats 4000000 in
set_option maxRecDepth 100000 in
theorem k_X1_copyFrom (l : Launch) (G : sw_E) (h0 : Nat) (h1 : Nat) (cf : Int32) (cn : Int32) (cw : Int32) (zf : Int32) (zn : Int32) (zw : Int32) (hb_zw : zw = 0 ∨ zw = 1) : sw_M l G yX1_copyFrom wsX1_copyFrom ({ frames := 0, cells := 0, slots := 0, locals := 0 } : Room) [.ref h0, .ref h1] [(h0, .inr (1, [.int cf, .int cn, .int cw])), (h1, .inr (1, [.int zf, .int zn, .int zw]))] (sw_QV G (S := Unit) (fun (_ : Unit) => True) (fun _ => [(h0, .inr (1, [.int zf, .int zn, .int zw])), (h1, .inr (1, [.int zf, .int zn, .int zw]))])) 0 0 := by
  refine sw_start (cc := cX1_copyFrom) (maxL := 2) (ret := none) (lv := [(0, .ref h0), (1, .ref h1)]) (own := RX1) (nm := "copyFrom") (by decide +kernel) rfl rfl rfl rfl (Nat.le_of_ble_eq_true rfl) (fun C F T => ?_)
  have in1 : ∀ w ∈ u_ws RX1 TX1 3, w ∈ wsX1_copyFrom := fun w h => List.mem_cons_of_mem _ (List.mem_append_right _ (h))
  refine sw_aload_n (pc := 0) F dX1_copyFrom_0 rfl 0 rfl ?_
  refine sw_aload_n (pc := 1) F dX1_copyFrom_1 rfl 1 rfl ?_
  refine sw_get (pc := 2) (Cn := RX1) (T := TX1) (N := 3) (ci := 1) (v := .int zf) F in1 1 rfl rfl 0 (by decide) rfl (List.mem_of_getElem? (i := 1) rfl) rfl dX1_copyFrom_2 ?_
  refine sw_put (pc := 5) (Cn := RX1) (T := TX1) (N := 3) (ci := 1) (ty0 := tyX1) (ws' := [(h0, .inr (1, [.int zf, .int cn, .int cw])), (h1, .inr (1, [.int zf, .int zn, .int zw]))]) F in1 tyX1_ok nmX1 0 rfl rfl 0 (by decide) rfl (List.mem_of_getElem? (i := 1) rfl) rfl rfl rfl (Nat.le_of_ble_eq_true rfl) dX1_copyFrom_5 rfl ?_
  refine sw_aload_n (pc := 8) F dX1_copyFrom_8 rfl 0 rfl ?_
  refine sw_aload_n (pc := 9) F dX1_copyFrom_9 rfl 1 rfl ?_
  refine sw_get (pc := 10) (Cn := RX1) (T := TX1) (N := 3) (ci := 1) (v := .int zn) F in1 1 rfl rfl 1 (by decide) rfl (List.mem_of_getElem? (i := 2) rfl) rfl dX1_copyFrom_10 ?_
  refine sw_put (pc := 13) (Cn := RX1) (T := TX1) (N := 3) (ci := 1) (ty0 := tyX1) (ws' := [(h0, .inr (1, [.int zf, .int zn, .int cw])), (h1, .inr (1, [.int zf, .int zn, .int zw]))]) F in1 tyX1_ok nmX1 0 rfl rfl 1 (by decide) rfl (List.mem_of_getElem? (i := 2) rfl) rfl rfl rfl (Nat.le_of_ble_eq_true rfl) dX1_copyFrom_13 rfl ?_
  refine sw_aload_n (pc := 16) F dX1_copyFrom_16 rfl 0 rfl ?_
  refine sw_aload_n (pc := 17) F dX1_copyFrom_17 rfl 1 rfl ?_
  refine sw_get (pc := 18) (Cn := RX1) (T := TX1) (N := 3) (ci := 1) (v := .int zw) F in1 1 rfl rfl 2 (by decide) rfl (List.mem_of_getElem? (i := 3) rfl) rfl dX1_copyFrom_18 ?_
  refine sw_put (pc := 21) (Cn := RX1) (T := TX1) (N := 3) (ci := 1) (ty0 := tyX1) (ws' := [(h0, .inr (1, [.int zf, .int zn, .int zw])), (h1, .inr (1, [.int zf, .int zn, .int zw]))]) F in1 tyX1_ok nmX1 0 rfl rfl 2 (by decide) rfl (List.mem_of_getElem? (i := 3) rfl) rfl (sw_nb hb_zw).1 (sw_nb hb_zw).2 (Nat.le_of_ble_eq_true rfl) dX1_copyFrom_21 rfl ?_
  exact sw_vret (pc := 24) F T () trivial rfl dX1_copyFrom_24
set_option maxHeartbeats 4000000 in
set_option maxRecDepth 100000 in
theorem k_X2_init (l : Launch) (G : sw_E) (h0 : Nat) (ym : Int64) (yf : Int64) (yh : Int32)  : sw_M l G yX2_init wsX2_init ({ frames := 1, cells := 0, slots := 0, locals := 12 } : Room) [.ref h0] [(h0, .inr (2, [.long ym, .long yf, .int yh]))] (sw_QV G (S := Unit) (fun (_ : Unit) => True) (fun _ => [(h0, .inr (2, [.long ym, .long yf, .int yh]))])) 0 0 := by
  refine sw_start (cc := cX2_init) (maxL := 1) (ret := none) (lv := [(0, .ref h0)]) (own := RX2) (nm := "<init>") (by decide +kernel) rfl rfl rfl rfl (Nat.le_of_ble_eq_true rfl) (fun C F T => ?_)
  refine sw_aload_n (pc := 0) F dX2_init_0 rfl 0 rfl ?_
  refine sw_objInit (pc := 1) (rm := ({ frames := 1, cells := 0, slots := 0, locals := 12 } : Room)) F T.2.1 (List.mem_of_getElem? (i := 1) rfl) (List.mem_of_getElem? (i := 2) rfl) (List.mem_of_getElem? (i := 3) rfl) dX2_init_1 (Nat.le_of_ble_eq_true rfl) (Nat.le_of_ble_eq_true rfl) ?_
  exact sw_vret (pc := 4) F T () trivial rfl dX2_init_4
set_option maxHeartbeats 4000000 in
set_option maxRecDepth 100000 in
theorem k_X2_copyFrom (l : Launch) (G : sw_E) (h0 : Nat) (h1 : Nat) (ym : Int64) (yf : Int64) (yh : Int32) (zm : Int64) (zf : Int64) (zh : Int32)  : sw_M l G yX2_copyFrom wsX2_copyFrom ({ frames := 0, cells := 0, slots := 0, locals := 0 } : Room) [.ref h0, .ref h1] [(h0, .inr (2, [.long ym, .long yf, .int yh])), (h1, .inr (2, [.long zm, .long zf, .int zh]))] (sw_QV G (S := Unit) (fun (_ : Unit) => True) (fun _ => [(h0, .inr (2, [.long zm, .long zf, .int zh])), (h1, .inr (2, [.long zm, .long zf, .int zh]))])) 0 0 := by
  refine sw_start (cc := cX2_copyFrom) (maxL := 2) (ret := none) (lv := [(0, .ref h0), (1, .ref h1)]) (own := RX2) (nm := "copyFrom") (by decide +kernel) rfl rfl rfl rfl (Nat.le_of_ble_eq_true rfl) (fun C F T => ?_)
  have in2 : ∀ w ∈ u_ws RX2 TX2 3, w ∈ wsX2_copyFrom := fun w h => List.mem_cons_of_mem _ (List.mem_append_right _ (h))
  refine sw_aload_n (pc := 0) F dX2_copyFrom_0 rfl 0 rfl ?_
  refine sw_aload_n (pc := 1) F dX2_copyFrom_1 rfl 1 rfl ?_
  refine sw_get (pc := 2) (Cn := RX2) (T := TX2) (N := 3) (ci := 2) (v := .long zm) F in2 1 rfl rfl 0 (by decide) rfl (List.mem_of_getElem? (i := 1) rfl) rfl dX2_copyFrom_2 ?_
  refine sw_put (pc := 5) (Cn := RX2) (T := TX2) (N := 3) (ci := 2) (ty0 := tyX2) (ws' := [(h0, .inr (2, [.long zm, .long yf, .int yh])), (h1, .inr (2, [.long zm, .long zf, .int zh]))]) F in2 tyX2_ok nmX2 0 rfl rfl 0 (by decide) rfl (List.mem_of_getElem? (i := 1) rfl) rfl rfl rfl (Nat.le_of_ble_eq_true rfl) dX2_copyFrom_5 rfl ?_
  refine sw_aload_n (pc := 8) F dX2_copyFrom_8 rfl 0 rfl ?_
  refine sw_aload_n (pc := 9) F dX2_copyFrom_9 rfl 1 rfl ?_
  refine sw_get (pc := 10) (Cn := RX2) (T := TX2) (N := 3) (ci := 2) (v := .long zf) F in2 1 rfl rfl 1 (by decide) rfl (List.mem_of_getElem? (i := 2) rfl) rfl dX2_copyFrom_10 ?_
  refine sw_put (pc := 13) (Cn := RX2) (T := TX2) (N := 3) (ci := 2) (ty0 := tyX2) (ws' := [(h0, .inr (2, [.long zm, .long zf, .int yh])), (h1, .inr (2, [.long zm, .long zf, .int zh]))]) F in2 tyX2_ok nmX2 0 rfl rfl 1 (by decide) rfl (List.mem_of_getElem? (i := 2) rfl) rfl rfl rfl (Nat.le_of_ble_eq_true rfl) dX2_copyFrom_13 rfl ?_
  refine sw_aload_n (pc := 16) F dX2_copyFrom_16 rfl 0 rfl ?_
  refine sw_aload_n (pc := 17) F dX2_copyFrom_17 rfl 1 rfl ?_
  refine sw_get (pc := 18) (Cn := RX2) (T := TX2) (N := 3) (ci := 2) (v := .int zh) F in2 1 rfl rfl 2 (by decide) rfl (List.mem_of_getElem? (i := 3) rfl) rfl dX2_copyFrom_18 ?_
  refine sw_put (pc := 21) (Cn := RX2) (T := TX2) (N := 3) (ci := 2) (ty0 := tyX2) (ws' := [(h0, .inr (2, [.long zm, .long zf, .int zh])), (h1, .inr (2, [.long zm, .long zf, .int zh]))]) F in2 tyX2_ok nmX2 0 rfl rfl 2 (by decide) rfl (List.mem_of_getElem? (i := 3) rfl) rfl rfl rfl (Nat.le_of_ble_eq_true rfl) dX2_copyFrom_21 rfl ?_
  exact sw_vret (pc := 24) F T () trivial rfl dX2_copyFrom_24
set_option maxHeartbeats 4000000 in
set_option maxRecDepth 100000 in
theorem k_X2_clear (l : Launch) (G : sw_E) (h0 : Nat) (ym : Int64) (yf : Int64) (yh : Int32)  : sw_M l G yX2_clear wsX2_clear ({ frames := 0, cells := 0, slots := 0, locals := 0 } : Room) [.ref h0] [(h0, .inr (2, [.long ym, .long yf, .int yh]))] (sw_QV G (S := Unit) (fun (_ : Unit) => True) (fun _ => [(h0, .inr (2, [.long 0, .long 0, .int 0]))])) 0 0 := by
  refine sw_start (cc := cX2_clear) (maxL := 1) (ret := none) (lv := [(0, .ref h0)]) (own := RX2) (nm := "clear") (by decide +kernel) rfl rfl rfl rfl (Nat.le_of_ble_eq_true rfl) (fun C F T => ?_)
  have in2 : ∀ w ∈ u_ws RX2 TX2 3, w ∈ wsX2_clear := fun w h => List.mem_cons_of_mem _ (List.mem_append_right _ (h))
  refine sw_aload_n (pc := 0) F dX2_clear_0 rfl 0 rfl ?_
  refine sw_lconst (pc := 1) (v := 0) F dX2_clear_1 rfl ?_
  refine sw_put (pc := 2) (Cn := RX2) (T := TX2) (N := 3) (ci := 2) (ty0 := tyX2) (ws' := [(h0, .inr (2, [.long 0, .long yf, .int yh]))]) F in2 tyX2_ok nmX2 0 rfl rfl 0 (by decide) rfl (List.mem_of_getElem? (i := 1) rfl) rfl rfl rfl (Nat.le_of_ble_eq_true rfl) dX2_clear_2 rfl ?_
  refine sw_aload_n (pc := 5) F dX2_clear_5 rfl 0 rfl ?_
  refine sw_lconst (pc := 6) (v := 0) F dX2_clear_6 rfl ?_
  refine sw_put (pc := 7) (Cn := RX2) (T := TX2) (N := 3) (ci := 2) (ty0 := tyX2) (ws' := [(h0, .inr (2, [.long 0, .long 0, .int yh]))]) F in2 tyX2_ok nmX2 0 rfl rfl 1 (by decide) rfl (List.mem_of_getElem? (i := 2) rfl) rfl rfl rfl (Nat.le_of_ble_eq_true rfl) dX2_clear_7 rfl ?_
  refine sw_aload_n (pc := 10) F dX2_clear_10 rfl 0 rfl ?_
  refine sw_iconst (pc := 11) (v := 0) F dX2_clear_11 rfl ?_
  refine sw_put (pc := 12) (Cn := RX2) (T := TX2) (N := 3) (ci := 2) (ty0 := tyX2) (ws' := [(h0, .inr (2, [.long 0, .long 0, .int 0]))]) F in2 tyX2_ok nmX2 0 rfl rfl 2 (by decide) rfl (List.mem_of_getElem? (i := 3) rfl) rfl rfl rfl (Nat.le_of_ble_eq_true rfl) dX2_clear_12 rfl ?_
  exact sw_vret (pc := 15) F T () trivial rfl dX2_clear_15
set_option maxHeartbeats 4000000 in
set_option maxRecDepth 100000 in
theorem k_X0_init (l : Launch) (G : sw_E) (h0 : Nat) (bd : Int32) (bo : Int32) (bp : Int32) (bs : Int32) (bm : Int64) (bv : Int32)  : sw_M l G yX0_init wsX0_init ({ frames := 1, cells := 0, slots := 0, locals := 12 } : Room) [.ref h0] [(h0, .inr (0, [.int bd, .int bo, .int bp, .int bs, .long bm, .int bv]))] (sw_QV G (S := Unit) (fun (_ : Unit) => True) (fun _ => [(h0, .inr (0, [.int bd, .int bo, .int bp, .int bs, .long bm, .int 0]))])) 0 0 := by
  refine sw_start (cc := cX0_init) (maxL := 1) (ret := none) (lv := [(0, .ref h0)]) (own := RX0) (nm := "<init>") (by decide +kernel) rfl rfl rfl rfl (Nat.le_of_ble_eq_true rfl) (fun C F T => ?_)
  have in0 : ∀ w ∈ u_ws RX0 TX0 6, w ∈ wsX0_init := fun w h => List.mem_cons_of_mem _ (List.mem_append_right _ (h))
  refine sw_aload_n (pc := 0) F dX0_init_0 rfl 0 rfl ?_
  refine sw_objInit (pc := 1) (rm := ({ frames := 1, cells := 0, slots := 0, locals := 12 } : Room)) F T.2.1 (List.mem_of_getElem? (i := 1) rfl) (List.mem_of_getElem? (i := 2) rfl) (List.mem_of_getElem? (i := 3) rfl) dX0_init_1 (Nat.le_of_ble_eq_true rfl) (Nat.le_of_ble_eq_true rfl) ?_
  refine sw_aload_n (pc := 4) F dX0_init_4 rfl 0 rfl ?_
  refine sw_iconst (pc := 5) (v := 0) F dX0_init_5 rfl ?_
  refine sw_put (pc := 6) (Cn := RX0) (T := TX0) (N := 6) (ci := 0) (ty0 := tyX0) (ws' := [(h0, .inr (0, [.int bd, .int bo, .int bp, .int bs, .long bm, .int 0]))]) F in0 tyX0_ok nmX0 0 rfl rfl 5 (by decide) rfl (List.mem_of_getElem? (i := 4) rfl) rfl rfl rfl (Nat.le_of_ble_eq_true rfl) dX0_init_6 rfl ?_
  exact sw_vret (pc := 9) F T () trivial rfl dX0_init_9
set_option maxHeartbeats 4000000 in
set_option maxRecDepth 100000 in
theorem k_X0_copyFrom (l : Launch) (G : sw_E) (h0 : Nat) (h1 : Nat) (bd : Int32) (bo : Int32) (bp : Int32) (bs : Int32) (bm : Int64) (bv : Int32) (zd : Int32) (zo : Int32) (zp : Int32) (zs : Int32) (zm : Int64) (zv : Int32) (hb_zo : zo = 0 ∨ zo = 1) : sw_M l G yX0_copyFrom wsX0_copyFrom ({ frames := 0, cells := 0, slots := 0, locals := 0 } : Room) [.ref h0, .ref h1] [(h0, .inr (0, [.int bd, .int bo, .int bp, .int bs, .long bm, .int bv])), (h1, .inr (0, [.int zd, .int zo, .int zp, .int zs, .long zm, .int zv]))] (sw_QV G (S := Unit) (fun (_ : Unit) => True) (fun _ => [(h0, .inr (0, [.int zd, .int zo, .int zp, .int zs, .long zm, .int zv])), (h1, .inr (0, [.int zd, .int zo, .int zp, .int zs, .long zm, .int zv]))])) 0 0 := by
  refine sw_start (cc := cX0_copyFrom) (maxL := 2) (ret := none) (lv := [(0, .ref h0), (1, .ref h1)]) (own := RX0) (nm := "copyFrom") (by decide +kernel) rfl rfl rfl rfl (Nat.le_of_ble_eq_true rfl) (fun C F T => ?_)
  have in0 : ∀ w ∈ u_ws RX0 TX0 6, w ∈ wsX0_copyFrom := fun w h => List.mem_cons_of_mem _ (List.mem_append_right _ (h))
  refine sw_aload_n (pc := 0) F dX0_copyFrom_0 rfl 0 rfl ?_
  refine sw_aload_n (pc := 1) F dX0_copyFrom_1 rfl 1 rfl ?_
  refine sw_get (pc := 2) (Cn := RX0) (T := TX0) (N := 6) (ci := 0) (v := .int zd) F in0 1 rfl rfl 0 (by decide) rfl (List.mem_of_getElem? (i := 1) rfl) rfl dX0_copyFrom_2 ?_
  refine sw_put (pc := 5) (Cn := RX0) (T := TX0) (N := 6) (ci := 0) (ty0 := tyX0) (ws' := [(h0, .inr (0, [.int zd, .int bo, .int bp, .int bs, .long bm, .int bv])), (h1, .inr (0, [.int zd, .int zo, .int zp, .int zs, .long zm, .int zv]))]) F in0 tyX0_ok nmX0 0 rfl rfl 0 (by decide) rfl (List.mem_of_getElem? (i := 1) rfl) rfl rfl rfl (Nat.le_of_ble_eq_true rfl) dX0_copyFrom_5 rfl ?_
  refine sw_aload_n (pc := 8) F dX0_copyFrom_8 rfl 0 rfl ?_
  refine sw_aload_n (pc := 9) F dX0_copyFrom_9 rfl 1 rfl ?_
  refine sw_get (pc := 10) (Cn := RX0) (T := TX0) (N := 6) (ci := 0) (v := .int zo) F in0 1 rfl rfl 1 (by decide) rfl (List.mem_of_getElem? (i := 2) rfl) rfl dX0_copyFrom_10 ?_
  refine sw_put (pc := 13) (Cn := RX0) (T := TX0) (N := 6) (ci := 0) (ty0 := tyX0) (ws' := [(h0, .inr (0, [.int zd, .int zo, .int bp, .int bs, .long bm, .int bv])), (h1, .inr (0, [.int zd, .int zo, .int zp, .int zs, .long zm, .int zv]))]) F in0 tyX0_ok nmX0 0 rfl rfl 1 (by decide) rfl (List.mem_of_getElem? (i := 2) rfl) rfl (sw_nb hb_zo).1 (sw_nb hb_zo).2 (Nat.le_of_ble_eq_true rfl) dX0_copyFrom_13 rfl ?_
  refine sw_aload_n (pc := 16) F dX0_copyFrom_16 rfl 0 rfl ?_
  refine sw_aload_n (pc := 17) F dX0_copyFrom_17 rfl 1 rfl ?_
  refine sw_get (pc := 18) (Cn := RX0) (T := TX0) (N := 6) (ci := 0) (v := .int zp) F in0 1 rfl rfl 2 (by decide) rfl (List.mem_of_getElem? (i := 3) rfl) rfl dX0_copyFrom_18 ?_
  refine sw_put (pc := 21) (Cn := RX0) (T := TX0) (N := 6) (ci := 0) (ty0 := tyX0) (ws' := [(h0, .inr (0, [.int zd, .int zo, .int zp, .int bs, .long bm, .int bv])), (h1, .inr (0, [.int zd, .int zo, .int zp, .int zs, .long zm, .int zv]))]) F in0 tyX0_ok nmX0 0 rfl rfl 2 (by decide) rfl (List.mem_of_getElem? (i := 3) rfl) rfl rfl rfl (Nat.le_of_ble_eq_true rfl) dX0_copyFrom_21 rfl ?_
  refine sw_aload_n (pc := 24) F dX0_copyFrom_24 rfl 0 rfl ?_
  refine sw_aload_n (pc := 25) F dX0_copyFrom_25 rfl 1 rfl ?_
  refine sw_get (pc := 26) (Cn := RX0) (T := TX0) (N := 6) (ci := 0) (v := .int zs) F in0 1 rfl rfl 3 (by decide) rfl (List.mem_of_getElem? (i := 4) rfl) rfl dX0_copyFrom_26 ?_
  refine sw_put (pc := 29) (Cn := RX0) (T := TX0) (N := 6) (ci := 0) (ty0 := tyX0) (ws' := [(h0, .inr (0, [.int zd, .int zo, .int zp, .int zs, .long bm, .int bv])), (h1, .inr (0, [.int zd, .int zo, .int zp, .int zs, .long zm, .int zv]))]) F in0 tyX0_ok nmX0 0 rfl rfl 3 (by decide) rfl (List.mem_of_getElem? (i := 4) rfl) rfl rfl rfl (Nat.le_of_ble_eq_true rfl) dX0_copyFrom_29 rfl ?_
  refine sw_aload_n (pc := 32) F dX0_copyFrom_32 rfl 0 rfl ?_
  refine sw_aload_n (pc := 33) F dX0_copyFrom_33 rfl 1 rfl ?_
  refine sw_get (pc := 34) (Cn := RX0) (T := TX0) (N := 6) (ci := 0) (v := .long zm) F in0 1 rfl rfl 4 (by decide) rfl (List.mem_of_getElem? (i := 5) rfl) rfl dX0_copyFrom_34 ?_
  refine sw_put (pc := 37) (Cn := RX0) (T := TX0) (N := 6) (ci := 0) (ty0 := tyX0) (ws' := [(h0, .inr (0, [.int zd, .int zo, .int zp, .int zs, .long zm, .int bv])), (h1, .inr (0, [.int zd, .int zo, .int zp, .int zs, .long zm, .int zv]))]) F in0 tyX0_ok nmX0 0 rfl rfl 4 (by decide) rfl (List.mem_of_getElem? (i := 5) rfl) rfl rfl rfl (Nat.le_of_ble_eq_true rfl) dX0_copyFrom_37 rfl ?_
  refine sw_aload_n (pc := 40) F dX0_copyFrom_40 rfl 0 rfl ?_
  refine sw_aload_n (pc := 41) F dX0_copyFrom_41 rfl 1 rfl ?_
  refine sw_get (pc := 42) (Cn := RX0) (T := TX0) (N := 6) (ci := 0) (v := .int zv) F in0 1 rfl rfl 5 (by decide) rfl (List.mem_of_getElem? (i := 6) rfl) rfl dX0_copyFrom_42 ?_
  refine sw_put (pc := 45) (Cn := RX0) (T := TX0) (N := 6) (ci := 0) (ty0 := tyX0) (ws' := [(h0, .inr (0, [.int zd, .int zo, .int zp, .int zs, .long zm, .int zv])), (h1, .inr (0, [.int zd, .int zo, .int zp, .int zs, .long zm, .int zv]))]) F in0 tyX0_ok nmX0 0 rfl rfl 5 (by decide) rfl (List.mem_of_getElem? (i := 6) rfl) rfl rfl rfl (Nat.le_of_ble_eq_true rfl) dX0_copyFrom_45 rfl ?_
  exact sw_vret (pc := 48) F T () trivial rfl dX0_copyFrom_48
def f_X0_setValve_o0_5 (bp : Int32) (bs : Int32) (bm : Int64) : Int32 := if bs.toInt64 < (bp.toInt64 - bm) then (2) else (1)
set_option maxHeartbeats 4000000 in
set_option maxRecDepth 100000 in
theorem k_X0_setValve (l : Launch) (G : sw_E) (h0 : Nat) (bd : Int32) (bo : Int32) (bp : Int32) (bs : Int32) (bm : Int64) (bv : Int32)  : sw_M l G yX0_setValve wsX0_setValve ({ frames := 0, cells := 0, slots := 0, locals := 0 } : Room) [.ref h0] [(h0, .inr (0, [.int bd, .int bo, .int bp, .int bs, .long bm, .int bv]))] (sw_QV G (S := Int32) (fun (u : Int32) => u = f_X0_setValve_o0_5 bp bs bm) (fun u => [(h0, .inr (0, [.int bd, .int bo, .int bp, .int bs, .long bm, .int u]))])) 0 0 := by
  refine sw_start (cc := cX0_setValve) (maxL := 1) (ret := none) (lv := [(0, .ref h0)]) (own := RX0) (nm := "setValve") (by decide +kernel) rfl rfl rfl rfl (Nat.le_of_ble_eq_true rfl) (fun C F T => ?_)
  have in0 : ∀ w ∈ u_ws RX0 TX0 6, w ∈ wsX0_setValve := fun w h => List.mem_cons_of_mem _ (List.mem_append_right _ (h))
  refine sw_aload_n (pc := 0) F dX0_setValve_0 rfl 0 rfl ?_
  refine sw_aload_n (pc := 1) F dX0_setValve_1 rfl 0 rfl ?_
  refine sw_get (pc := 2) (Cn := RX0) (T := TX0) (N := 6) (ci := 0) (v := .int bp) F in0 0 rfl rfl 2 (by decide) rfl (List.mem_of_getElem? (i := 1) rfl) rfl dX0_setValve_2 ?_
  refine sw_i2l (pc := 5) F dX0_setValve_5 rfl ?_
  refine sw_aload_n (pc := 6) F dX0_setValve_6 rfl 0 rfl ?_
  refine sw_get (pc := 7) (Cn := RX0) (T := TX0) (N := 6) (ci := 0) (v := .long bm) F in0 0 rfl rfl 4 (by decide) rfl (List.mem_of_getElem? (i := 2) rfl) rfl dX0_setValve_7 ?_
  refine sw_lsub (pc := 10) F dX0_setValve_10 ?_
  refine sw_topl (fun x_1 ex_1 => ?_)
  refine sw_aload_n (pc := 11) F dX0_setValve_11 rfl 0 rfl ?_
  refine sw_get (pc := 12) (Cn := RX0) (T := TX0) (N := 6) (ci := 0) (v := .int bs) F in0 0 rfl rfl 3 (by decide) rfl (List.mem_of_getElem? (i := 3) rfl) rfl dX0_setValve_12 ?_
  refine sw_i2l (pc := 15) F dX0_setValve_15 rfl ?_
  refine sw_lcmp_gt (pc := 16) (tgt := 24) F dX0_setValve_16 dX0_setValve_17 (by decide) (fun c_2 => ?_) (fun c_2 => ?_)
  · skip
    refine sw_iconst (pc := 24) (v := 2) F dX0_setValve_24 rfl ?_
    refine sw_put (pc := 25) (Cn := RX0) (T := TX0) (N := 6) (ci := 0) (ty0 := tyX0) (ws' := [(h0, .inr (0, [.int bd, .int bo, .int bp, .int bs, .long bm, .int 2]))]) F in0 tyX0_ok nmX0 0 rfl rfl 5 (by decide) rfl (List.mem_of_getElem? (i := 4) rfl) rfl rfl rfl (Nat.le_of_ble_eq_true rfl) dX0_setValve_25 rfl ?_
    subst ex_1
    exact sw_vret (pc := 28) F T 2 (by unfold f_X0_setValve_o0_5; rw [if_pos c_2]) rfl dX0_setValve_28
  · skip
    refine sw_iconst (pc := 20) (v := 1) F dX0_setValve_20 rfl ?_
    refine sw_goto (pc := 21) (tgt := 25) F dX0_setValve_21 (by decide) ?_
    refine sw_put (pc := 25) (Cn := RX0) (T := TX0) (N := 6) (ci := 0) (ty0 := tyX0) (ws' := [(h0, .inr (0, [.int bd, .int bo, .int bp, .int bs, .long bm, .int 1]))]) F in0 tyX0_ok nmX0 0 rfl rfl 5 (by decide) rfl (List.mem_of_getElem? (i := 4) rfl) rfl rfl rfl (Nat.le_of_ble_eq_true rfl) dX0_setValve_25 rfl ?_
    subst ex_1
    exact sw_vret (pc := 28) F T 1 (by unfold f_X0_setValve_o0_5; rw [if_neg c_2]) rfl dX0_setValve_28
def f_X0_begin_o0_0 (bd : Int32) : Int32 := (bd + 1)
def f_X0_begin_o0_5 (p : Int32) (q : Int32) : Int32 := (f_X0_setValve_o0_5 p q 0)
set_option maxHeartbeats 4000000 in
set_option maxRecDepth 100000 in
theorem k_X0_begin (l : Launch) (G : sw_E) (h0 : Nat) (bd : Int32) (bo : Int32) (bp : Int32) (bs : Int32) (bm : Int64) (bv : Int32) (p : Int32) (q : Int32)  : sw_M l G yX0_begin wsX0_begin ({ frames := 1, cells := 0, slots := 0, locals := 20 } : Room) [.ref h0, .int p, .int q] [(h0, .inr (0, [.int bd, .int bo, .int bp, .int bs, .long bm, .int bv]))] (sw_QV G (S := Int32 × Int32) (fun (u : Int32 × Int32) => u.1 = f_X0_begin_o0_0 bd ∧ u.2 = f_X0_begin_o0_5 p q) (fun u => [(h0, .inr (0, [.int u.1, .int 1, .int p, .int q, .long 0, .int u.2]))])) 0 0 := by
  refine sw_start (cc := cX0_begin) (maxL := 3) (ret := none) (lv := [(0, .ref h0), (1, .int p), (2, .int q)]) (own := RX0) (nm := "begin") (by decide +kernel) rfl rfl rfl rfl (Nat.le_of_ble_eq_true rfl) (fun C F T => ?_)
  have in0 : ∀ w ∈ u_ws RX0 TX0 6, w ∈ wsX0_begin := fun w h => List.mem_cons_of_mem _ (List.mem_append_right _ (h))
  refine sw_aload_n (pc := 0) F dX0_begin_0 rfl 0 rfl ?_
  refine sw_dup (pc := 1) F dX0_begin_1 rfl ?_
  refine sw_get (pc := 2) (Cn := RX0) (T := TX0) (N := 6) (ci := 0) (v := .int bd) F in0 0 rfl rfl 0 (by decide) rfl (List.mem_of_getElem? (i := 1) rfl) rfl dX0_begin_2 ?_
  refine sw_iconst (pc := 5) (v := 1) F dX0_begin_5 rfl ?_
  refine sw_iadd (pc := 6) F dX0_begin_6 ?_
  refine sw_topi (fun x_1 ex_1 => ?_)
  refine sw_put (pc := 7) (Cn := RX0) (T := TX0) (N := 6) (ci := 0) (ty0 := tyX0) (ws' := [(h0, .inr (0, [.int x_1, .int bo, .int bp, .int bs, .long bm, .int bv]))]) F in0 tyX0_ok nmX0 0 rfl rfl 0 (by decide) rfl (List.mem_of_getElem? (i := 1) rfl) rfl rfl rfl (Nat.le_of_ble_eq_true rfl) dX0_begin_7 rfl ?_
  refine sw_aload_n (pc := 10) F dX0_begin_10 rfl 0 rfl ?_
  refine sw_iconst (pc := 11) (v := 1) F dX0_begin_11 rfl ?_
  refine sw_put (pc := 12) (Cn := RX0) (T := TX0) (N := 6) (ci := 0) (ty0 := tyX0) (ws' := [(h0, .inr (0, [.int x_1, .int 1, .int bp, .int bs, .long bm, .int bv]))]) F in0 tyX0_ok nmX0 0 rfl rfl 1 (by decide) rfl (List.mem_of_getElem? (i := 2) rfl) rfl rfl rfl (Nat.le_of_ble_eq_true rfl) dX0_begin_12 rfl ?_
  refine sw_aload_n (pc := 15) F dX0_begin_15 rfl 0 rfl ?_
  refine sw_iload_n (pc := 16) F dX0_begin_16 rfl 1 rfl ?_
  refine sw_put (pc := 17) (Cn := RX0) (T := TX0) (N := 6) (ci := 0) (ty0 := tyX0) (ws' := [(h0, .inr (0, [.int x_1, .int 1, .int p, .int bs, .long bm, .int bv]))]) F in0 tyX0_ok nmX0 0 rfl rfl 2 (by decide) rfl (List.mem_of_getElem? (i := 3) rfl) rfl rfl rfl (Nat.le_of_ble_eq_true rfl) dX0_begin_17 rfl ?_
  refine sw_aload_n (pc := 20) F dX0_begin_20 rfl 0 rfl ?_
  refine sw_iload_n (pc := 21) F dX0_begin_21 rfl 2 rfl ?_
  refine sw_put (pc := 22) (Cn := RX0) (T := TX0) (N := 6) (ci := 0) (ty0 := tyX0) (ws' := [(h0, .inr (0, [.int x_1, .int 1, .int p, .int q, .long bm, .int bv]))]) F in0 tyX0_ok nmX0 0 rfl rfl 3 (by decide) rfl (List.mem_of_getElem? (i := 4) rfl) rfl rfl rfl (Nat.le_of_ble_eq_true rfl) dX0_begin_22 rfl ?_
  refine sw_aload_n (pc := 25) F dX0_begin_25 rfl 0 rfl ?_
  refine sw_lconst (pc := 26) (v := 0) F dX0_begin_26 rfl ?_
  refine sw_put (pc := 27) (Cn := RX0) (T := TX0) (N := 6) (ci := 0) (ty0 := tyX0) (ws' := [(h0, .inr (0, [.int x_1, .int 1, .int p, .int q, .long 0, .int bv]))]) F in0 tyX0_ok nmX0 0 rfl rfl 4 (by decide) rfl (List.mem_of_getElem? (i := 5) rfl) rfl rfl rfl (Nat.le_of_ble_eq_true rfl) dX0_begin_27 rfl ?_
  refine sw_aload_n (pc := 30) F dX0_begin_30 rfl 0 rfl ?_
  refine sw_callv (pc := 31) (wr := []) (k' := 0) (n' := 0) F (sw_runV (R := ({ frames := 1, cells := 0, slots := 0, locals := 20 } : Room)) (q0 := 0) (na := 0) F T.2.1 T.2.2.1 (k_X0_setValve l G h0 x_1 1 p q 0 bv) [0] rfl (by decide) gX0_begin_X0_setValve rfl rfl rfl (by decide +kernel) ⟨Nat.le_of_ble_eq_true rfl, Nat.le_of_ble_eq_true rfl⟩ rfl rfl rfl rfl rfl (Nat.le_of_ble_eq_true rfl) dX0_begin_31 (Nat.le_of_ble_eq_true rfl) (Nat.le_of_ble_eq_true rfl)) [0] [] rfl rfl (by decide) (by decide) rfl rfl (fun u_3 h_4 => ?_)
  obtain ⟨o_5, eu_3⟩ : ∃ z, z = u_3 := ⟨_, rfl⟩; subst eu_3
  have e_6 : o_5 = f_X0_setValve_o0_5 p q 0 := h_4
  refine sw_eq (ws' := [(h0, .inr (0, [.int x_1, .int 1, .int p, .int q, .long 0, .int o_5]))]) (lv' := [(0, .ref h0), (1, .int p), (2, .int q)]) (st' := []) rfl rfl rfl ?_
  subst e_6
  subst ex_1
  exact sw_vret (pc := 34) F T ((bd + 1), (f_X0_setValve_o0_5 p q 0)) ⟨rfl, rfl⟩ rfl dX0_begin_34
set_option maxHeartbeats 4000000 in
set_option maxRecDepth 100000 in
theorem k_X0_end (l : Launch) (G : sw_E) (h0 : Nat) (bd : Int32) (bo : Int32) (bp : Int32) (bs : Int32) (bm : Int64) (bv : Int32)  : sw_M l G yX0_end wsX0_end ({ frames := 0, cells := 0, slots := 0, locals := 0 } : Room) [.ref h0] [(h0, .inr (0, [.int bd, .int bo, .int bp, .int bs, .long bm, .int bv]))] (sw_QV G (S := Unit) (fun (_ : Unit) => True) (fun _ => [(h0, .inr (0, [.int bd, .int 0, .int bp, .int bs, .long bm, .int 0]))])) 0 0 := by
  refine sw_start (cc := cX0_end) (maxL := 1) (ret := none) (lv := [(0, .ref h0)]) (own := RX0) (nm := "end") (by decide +kernel) rfl rfl rfl rfl (Nat.le_of_ble_eq_true rfl) (fun C F T => ?_)
  have in0 : ∀ w ∈ u_ws RX0 TX0 6, w ∈ wsX0_end := fun w h => List.mem_cons_of_mem _ (List.mem_append_right _ (h))
  refine sw_aload_n (pc := 0) F dX0_end_0 rfl 0 rfl ?_
  refine sw_iconst (pc := 1) (v := 0) F dX0_end_1 rfl ?_
  refine sw_put (pc := 2) (Cn := RX0) (T := TX0) (N := 6) (ci := 0) (ty0 := tyX0) (ws' := [(h0, .inr (0, [.int bd, .int 0, .int bp, .int bs, .long bm, .int bv]))]) F in0 tyX0_ok nmX0 0 rfl rfl 1 (by decide) rfl (List.mem_of_getElem? (i := 1) rfl) rfl rfl rfl (Nat.le_of_ble_eq_true rfl) dX0_end_2 rfl ?_
  refine sw_aload_n (pc := 5) F dX0_end_5 rfl 0 rfl ?_
  refine sw_iconst (pc := 6) (v := 0) F dX0_end_6 rfl ?_
  refine sw_put (pc := 7) (Cn := RX0) (T := TX0) (N := 6) (ci := 0) (ty0 := tyX0) (ws' := [(h0, .inr (0, [.int bd, .int 0, .int bp, .int bs, .long bm, .int 0]))]) F in0 tyX0_ok nmX0 0 rfl rfl 5 (by decide) rfl (List.mem_of_getElem? (i := 2) rfl) rfl rfl rfl (Nat.le_of_ble_eq_true rfl) dX0_end_7 rfl ?_
  exact sw_vret (pc := 10) F T () trivial rfl dX0_end_10
def f_X0_fill_o0_1 (bo : Int32) (bp : Int32) (bm : Int64) (x : Int64) : Int32 := if (bm + x) < bp.toInt64 then (bo) else (0)
def f_X0_fill_o0_4 (bm : Int64) (x : Int64) : Int64 := (bm + x)
def f_X0_fill_o0_5 (bp : Int32) (bs : Int32) (bm : Int64) (x : Int64) : Int32 := if (bm + x) < bp.toInt64 then ((f_X0_setValve_o0_5 bp bs (bm + x))) else (0)
set_option maxHeartbeats 4000000 in
set_option maxRecDepth 100000 in
theorem k_X0_fill (l : Launch) (G : sw_E) (h0 : Nat) (bd : Int32) (bo : Int32) (bp : Int32) (bs : Int32) (bm : Int64) (bv : Int32) (x : Int64)  : sw_M l G yX0_fill wsX0_fill ({ frames := 1, cells := 0, slots := 0, locals := 20 } : Room) [.ref h0, .long x] [(h0, .inr (0, [.int bd, .int bo, .int bp, .int bs, .long bm, .int bv]))] (sw_QV G (S := Int32 × Int64 × Int32) (fun (u : Int32 × Int64 × Int32) => u.1 = f_X0_fill_o0_1 bo bp bm x ∧ u.2.1 = f_X0_fill_o0_4 bm x ∧ u.2.2 = f_X0_fill_o0_5 bp bs bm x) (fun u => [(h0, .inr (0, [.int bd, .int u.1, .int bp, .int bs, .long u.2.1, .int u.2.2]))])) 0 0 := by
  refine sw_start (cc := cX0_fill) (maxL := 3) (ret := none) (lv := [(0, .ref h0), (1, .long x)]) (own := RX0) (nm := "fill") (by decide +kernel) rfl rfl rfl rfl (Nat.le_of_ble_eq_true rfl) (fun C F T => ?_)
  have in0 : ∀ w ∈ u_ws RX0 TX0 6, w ∈ wsX0_fill := fun w h => List.mem_cons_of_mem _ (List.mem_append_right _ (h))
  refine sw_aload_n (pc := 0) F dX0_fill_0 rfl 0 rfl ?_
  refine sw_dup (pc := 1) F dX0_fill_1 rfl ?_
  refine sw_get (pc := 2) (Cn := RX0) (T := TX0) (N := 6) (ci := 0) (v := .long bm) F in0 0 rfl rfl 4 (by decide) rfl (List.mem_of_getElem? (i := 1) rfl) rfl dX0_fill_2 ?_
  refine sw_lload_n (pc := 5) F dX0_fill_5 rfl 1 rfl ?_
  refine sw_ladd (pc := 6) F dX0_fill_6 ?_
  refine sw_topl (fun x_1 ex_1 => ?_)
  refine sw_put (pc := 7) (Cn := RX0) (T := TX0) (N := 6) (ci := 0) (ty0 := tyX0) (ws' := [(h0, .inr (0, [.int bd, .int bo, .int bp, .int bs, .long x_1, .int bv]))]) F in0 tyX0_ok nmX0 0 rfl rfl 4 (by decide) rfl (List.mem_of_getElem? (i := 1) rfl) rfl rfl rfl (Nat.le_of_ble_eq_true rfl) dX0_fill_7 rfl ?_
  refine sw_aload_n (pc := 10) F dX0_fill_10 rfl 0 rfl ?_
  refine sw_get (pc := 11) (Cn := RX0) (T := TX0) (N := 6) (ci := 0) (v := .long x_1) F in0 0 rfl rfl 4 (by decide) rfl (List.mem_of_getElem? (i := 1) rfl) rfl dX0_fill_11 ?_
  refine sw_aload_n (pc := 14) F dX0_fill_14 rfl 0 rfl ?_
  refine sw_get (pc := 15) (Cn := RX0) (T := TX0) (N := 6) (ci := 0) (v := .int bp) F in0 0 rfl rfl 2 (by decide) rfl (List.mem_of_getElem? (i := 2) rfl) rfl dX0_fill_15 ?_
  refine sw_i2l (pc := 18) F dX0_fill_18 rfl ?_
  refine sw_lcmp_lt (pc := 19) (tgt := 30) F dX0_fill_19 dX0_fill_20 (by decide) (fun c_2 => ?_) (fun c_2 => ?_)
  · skip
    refine sw_aload_n (pc := 30) F dX0_fill_30 rfl 0 rfl ?_
    refine sw_callv (pc := 31) (wr := []) (k' := 0) (n' := 0) F (sw_runV (R := ({ frames := 1, cells := 0, slots := 0, locals := 20 } : Room)) (q0 := 0) (na := 0) F T.2.1 T.2.2.1 (k_X0_setValve l G h0 bd bo bp bs x_1 bv) [0] rfl (by decide) gX0_fill_X0_setValve rfl rfl rfl (by decide +kernel) ⟨Nat.le_of_ble_eq_true rfl, Nat.le_of_ble_eq_true rfl⟩ rfl rfl rfl rfl rfl (Nat.le_of_ble_eq_true rfl) dX0_fill_31 (Nat.le_of_ble_eq_true rfl) (Nat.le_of_ble_eq_true rfl)) [0] [] rfl rfl (by decide) (by decide) rfl rfl (fun u_4 h_5 => ?_)
    obtain ⟨o_6, eu_4⟩ : ∃ z, z = u_4 := ⟨_, rfl⟩; subst eu_4
    have e_7 : o_6 = f_X0_setValve_o0_5 bp bs x_1 := h_5
    refine sw_eq (ws' := [(h0, .inr (0, [.int bd, .int bo, .int bp, .int bs, .long x_1, .int o_6]))]) (lv' := [(0, .ref h0), (1, .long x)]) (st' := []) rfl rfl rfl ?_
    subst e_7
    subst ex_1
    exact sw_vret (pc := 34) F T (bo, (bm + x), (f_X0_setValve_o0_5 bp bs (bm + x))) ⟨(by unfold f_X0_fill_o0_1; rw [if_pos c_2]), rfl, (by unfold f_X0_fill_o0_5; rw [if_pos c_2])⟩ rfl dX0_fill_34
  · skip
    refine sw_aload_n (pc := 23) F dX0_fill_23 rfl 0 rfl ?_
    refine sw_callv (pc := 24) (wr := []) (k' := 0) (n' := 0) F (sw_runV (R := ({ frames := 1, cells := 0, slots := 0, locals := 20 } : Room)) (q0 := 0) (na := 0) F T.2.1 T.2.2.1 (k_X0_end l G h0 bd bo bp bs x_1 bv) [0] rfl (by decide) gX0_fill_X0_end rfl rfl rfl (by decide +kernel) ⟨Nat.le_of_ble_eq_true rfl, Nat.le_of_ble_eq_true rfl⟩ rfl rfl rfl rfl rfl (Nat.le_of_ble_eq_true rfl) dX0_fill_24 (Nat.le_of_ble_eq_true rfl) (Nat.le_of_ble_eq_true rfl)) [0] [] rfl rfl (by decide) (by decide) rfl rfl (fun u_9 h_10 => ?_)
    refine sw_eq (ws' := [(h0, .inr (0, [.int bd, .int 0, .int bp, .int bs, .long x_1, .int 0]))]) (lv' := [(0, .ref h0), (1, .long x)]) (st' := []) rfl rfl rfl ?_
    refine sw_goto (pc := 27) (tgt := 34) F dX0_fill_27 (by decide) ?_
    subst ex_1
    exact sw_vret (pc := 34) F T (0, (bm + x), 0) ⟨(by unfold f_X0_fill_o0_1; rw [if_neg c_2]), rfl, (by unfold f_X0_fill_o0_5; rw [if_neg c_2])⟩ rfl dX0_fill_34
