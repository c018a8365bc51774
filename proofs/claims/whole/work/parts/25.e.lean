set_option maxHeartbeats 4000000 in
set_option maxRecDepth 100000 in
theorem k_X3_squareRoot (l : Launch) (G : sw_E) (v : Int64) (hv0 : 0 ≤ v.toInt) (hv : v.toInt < 70368744177664) : sw_M l G yX3_squareRoot wsX3_squareRoot ({ frames := 0, cells := 0, slots := 0, locals := 0 } : Room) [.long v] [] (sw_QL G (S := Unit) (fun (r : Int64) (u : Unit) => r = isq v) (fun u => [])) 0 0 := by
  refine sw_start (cc := cX3_squareRoot) (maxL := 8) (ret := some .long) (lv := [(0, .long v)]) (own := RX3) (nm := "squareRoot") (by decide +kernel) rfl rfl rfl rfl (Nat.le_of_ble_eq_true rfl) (fun C F T => ?_)
  have loop : ∀ (e : Nat), e ≤ 23 → ∀ (x2 x4 : Int64), sqI v e x2 x4 → SW G C 0 0 [] [(4, .long x4), (2, .long x2), (0, .long v)] 7 [] := by
    intro e
    induction e with
    | zero =>
      intro _ x2 x4 hI
      refine sw_lload (pc := 7) F dX3_squareRoot_7 0 rfl ?_
      refine sw_lconst (pc := 9) (v := 0) F dX3_squareRoot_9 rfl ?_
      refine sw_lcmp_le (pc := 10) (tgt := 42) F dX3_squareRoot_10 dX3_squareRoot_11 (by decide) (fun _ => ?_) (fun c => absurd (sq_z hI) c)
      refine sw_lload_n (pc := 42) F dX3_squareRoot_42 rfl 1 rfl ?_
      exact sw_lret (pc := 43) F T () (isq_eq (sq_end hI)) rfl dX3_squareRoot_43
    | succ e ih =>
      intro he x2 x4 hI
      refine sw_lload (pc := 7) F dX3_squareRoot_7 0 rfl ?_
      refine sw_lconst (pc := 9) (v := 0) F dX3_squareRoot_9 rfl ?_
      refine sw_lcmp_le (pc := 10) (tgt := 42) F dX3_squareRoot_10 dX3_squareRoot_11 (by decide) (fun c => absurd c (sq_s (by omega) hI)) (fun _ => ?_)
      refine sw_lload_n (pc := 14) F dX3_squareRoot_14 rfl 1 rfl ?_
      refine sw_lload (pc := 15) F dX3_squareRoot_15 0 rfl ?_
      refine sw_ladd (pc := 17) F dX3_squareRoot_17 ?_
      refine sw_topl (fun x_1 ex_1 => ?_)
      refine sw_lstore (pc := 18) (lv' := [(6, .long x_1), (4, .long x4), (2, .long x2), (0, .long v)]) F T.1 dX3_squareRoot_18 (by decide) rfl ?_
      refine sw_lload (pc := 20) F dX3_squareRoot_20 0 rfl ?_
      refine sw_lload (pc := 22) F dX3_squareRoot_22 0 rfl ?_
      refine sw_lmul (pc := 24) F dX3_squareRoot_24 ?_
      refine sw_topl (fun x_2 ex_2 => ?_)
      refine sw_lload_n (pc := 25) F dX3_squareRoot_25 rfl 3 rfl ?_
      refine sw_lcmp_gt (pc := 26) (tgt := 33) F dX3_squareRoot_26 dX3_squareRoot_27 (by decide) (fun c_3 => ?_) (fun c_3 => ?_)
      · skip
        refine sw_lload (pc := 33) F dX3_squareRoot_33 1 rfl ?_
        refine sw_iconst (pc := 35) (v := 1) F dX3_squareRoot_35 rfl ?_
        refine sw_lshr (pc := 36) F dX3_squareRoot_36 ?_
        refine sw_topl (fun x_4 ex_4 => ?_)
        refine sw_lstore (pc := 37) (lv' := [(4, .long x_4), (6, .long x_1), (2, .long x2), (0, .long v)]) F T.1 dX3_squareRoot_37 (by decide) rfl ?_
        refine sw_goto (pc := 39) (tgt := 7) F dX3_squareRoot_39 (by decide) ?_
        refine sw_lvs (is := [0, 2, 3]) (lv' := [(4, .long x_4), (2, .long x2), (0, .long v)]) rfl ?_
        subst ex_4
        subst ex_2
        subst ex_1
        exact ih (by omega) _ _ (sq_no (by omega) hI c_3)
      · skip
        refine sw_lload (pc := 30) F dX3_squareRoot_30 0 rfl ?_
        refine sw_lstore_n (pc := 32) (lv' := [(2, .long x_1), (6, .long x_1), (4, .long x4), (0, .long v)]) F T.1 dX3_squareRoot_32 rfl (by decide) rfl ?_
        refine sw_lload (pc := 33) F dX3_squareRoot_33 2 rfl ?_
        refine sw_iconst (pc := 35) (v := 1) F dX3_squareRoot_35 rfl ?_
        refine sw_lshr (pc := 36) F dX3_squareRoot_36 ?_
        refine sw_topl (fun x_5 ex_5 => ?_)
        refine sw_lstore (pc := 37) (lv' := [(4, .long x_5), (2, .long x_1), (6, .long x_1), (0, .long v)]) F T.1 dX3_squareRoot_37 (by decide) rfl ?_
        refine sw_goto (pc := 39) (tgt := 7) F dX3_squareRoot_39 (by decide) ?_
        refine sw_lvs (is := [0, 1, 3]) (lv' := [(4, .long x_5), (2, .long x_1), (0, .long v)]) rfl ?_
        subst ex_5
        subst ex_2
        subst ex_1
        exact ih (by omega) _ _ (sq_yes (by omega) hI c_3)
  refine sw_lconst (pc := 0) (v := 0) F dX3_squareRoot_0 rfl ?_
  refine sw_lstore_n (pc := 1) (lv' := [(2, .long 0), (0, .long v)]) F T.1 dX3_squareRoot_1 rfl (by decide) rfl ?_
  refine sw_ldc2 (pc := 2) (v := 4194304) F (List.mem_of_getElem? (i := 1) rfl) dX3_squareRoot_2 ?_
  refine sw_lstore (pc := 5) (lv' := [(4, .long 4194304), (2, .long 0), (0, .long v)]) F T.1 dX3_squareRoot_5 (by decide) rfl ?_
  refine sw_lvs (is := [0, 1, 2]) (lv' := [(4, .long 4194304), (2, .long 0), (0, .long v)]) rfl ?_
  exact loop 23 (Nat.le_refl 23) 0 4194304 (sq_start hv0 hv)
set_option maxHeartbeats 4000000 in
set_option maxRecDepth 100000 in
theorem k_X4_hashAfter_168 (l : Launch) (G : sw_E) (h0 : Nat) (c0 : Nat) (ho : Int32) (hn : Int32) (hf : Nat → Int64) (a : Int64) (hn0 : 0 ≤ hn.toInt) : sw_M l G yX4_hashAfter wsX4_hashAfter ({ frames := 2, cells := 0, slots := 0, locals := 46 } : Room) [.ref h0, .long a] [(h0, .inr (4, [.int 24, .int 7, .ref c0, .int ho, .int hn])), (c0, .inl (G.2.1.2, 168, .inr (.inl hf)))] (sw_QL G (S := Unit) (fun (r : Int64) (u : Unit) => r = hr_out (fun i j => f_X4_valueAt_r 168 24 7 ho hf (nI i) (nI j)) 7 (f_X9_hashed_r a hn.toInt64) hn.toNatClampNeg) (fun u => [(h0, .inr (4, [.int 24, .int 7, .ref c0, .int ho, .int hn])), (c0, .inl (G.2.1.2, 168, .inr (.inl hf)))])) 0 0 := by
  refine sw_start (cc := cX4_hashAfter) (maxL := 7) (ret := some .long) (lv := [(0, .ref h0), (1, .long a)]) (own := RX4) (nm := "hashAfter") (by decide +kernel) rfl rfl rfl rfl (Nat.le_of_ble_eq_true rfl) (fun C F T => ?_)
  have in4 : ∀ w ∈ u_ws RX4 TX4 5, w ∈ wsX4_hashAfter := fun w h => List.mem_cons_of_mem _ (List.mem_append_right _ (h))
  have hm : hn = nI hn.toNatClampNeg := (nI_back hn0).symm
  have hm2 := nI_lt31 hn
  generalize hN : hn.toNatClampNeg = N at hm hm2 T
  have loop : ∀ (m i : Nat), i + m = N → ∀ (x3 : Int64), x3 = hr_out (fun i j => f_X4_valueAt_r 168 24 7 ho hf (nI i) (nI j)) 7 (f_X9_hashed_r a hn.toInt64) i → SW G C 0 0 [(h0, .inr (4, [.int 24, .int 7, .ref c0, .int ho, .int hn])), (c0, .inl (G.2.1.2, 168, .inr (.inl hf)))] [(5, .int (nI i)), (3, .long x3), (0, .ref h0), (1, .long a)] 13 [] := by
    intro m
    induction m with
    | zero =>
      intro i hi x3 hx
      refine sw_iload (pc := 13) F dX4_hashAfter_13 0 rfl ?_
      refine sw_aload_n (pc := 15) F dX4_hashAfter_15 rfl 2 rfl ?_
      refine sw_get (pc := 16) (Cn := RX4) (T := TX4) (N := 5) (ci := 4) (v := .int hn) F in4 0 rfl rfl 4 (by decide) rfl (List.mem_of_getElem? (i := 1) rfl) rfl dX4_hashAfter_16 ?_
      refine sw_icmp_ge (pc := 19) (tgt := 59) F dX4_hashAfter_19 (by decide) (fun _ => ?_) (fun c => absurd (by rw [hm, show i = N by omega]; exact nI_le (Nat.le_refl N) hm2) c)
      refine sw_lload_n (pc := 59) F dX4_hashAfter_59 rfl 1 rfl ?_
      exact sw_lret (pc := 60) F T () (by rw [hx, show i = N by omega]) rfl dX4_hashAfter_60
    | succ m ih =>
      intro i hi x3 hx
      refine sw_iload (pc := 13) F dX4_hashAfter_13 0 rfl ?_
      refine sw_aload_n (pc := 15) F dX4_hashAfter_15 rfl 2 rfl ?_
      refine sw_get (pc := 16) (Cn := RX4) (T := TX4) (N := 5) (ci := 4) (v := .int hn) F in4 0 rfl rfl 4 (by decide) rfl (List.mem_of_getElem? (i := 1) rfl) rfl dX4_hashAfter_16 ?_
      refine sw_icmp_ge (pc := 19) (tgt := 59) F dX4_hashAfter_19 (by decide) (fun c => absurd c (by rw [hm]; exact nI_ge (by omega) hm2)) (fun _ => ?_)
      refine sw_iconst (pc := 22) (v := 0) F dX4_hashAfter_22 rfl ?_
      refine sw_istore (pc := 23) (lv' := [(6, .int 0), (5, .int (nI i)), (3, .long x3), (0, .ref h0), (1, .long a)]) F T.1 dX4_hashAfter_23 (by decide) rfl ?_
      refine sw_iload (pc := 25) F dX4_hashAfter_25 0 rfl ?_
      refine sw_aload_n (pc := 27) F dX4_hashAfter_27 rfl 3 rfl ?_
      refine sw_get (pc := 28) (Cn := RX4) (T := TX4) (N := 5) (ci := 4) (v := .int 7) F in4 0 rfl rfl 1 (by decide) rfl (List.mem_of_getElem? (i := 2) rfl) rfl dX4_hashAfter_28 ?_
      refine sw_icmp_ge (pc := 31) (tgt := 53) F dX4_hashAfter_31 (by decide) (fun c => absurd c (by decide)) (fun _ => ?_)
      refine sw_lload_n (pc := 34) F dX4_hashAfter_34 rfl 2 rfl ?_
      refine sw_aload_n (pc := 35) F dX4_hashAfter_35 rfl 3 rfl ?_
      refine sw_iload (pc := 36) F dX4_hashAfter_36 1 rfl ?_
      refine sw_iload (pc := 38) F dX4_hashAfter_38 0 rfl ?_
      refine sw_calll (pc := 40) (wr := []) (k' := 0) (n' := 0) F (sw_runV (R := ({ frames := 2, cells := 0, slots := 0, locals := 46 } : Room)) (q0 := 0) (na := 2) F T.2.1 T.2.2.1 (k_X4_valueAt l G h0 c0 168 24 7 ho hn hf (nI i) 0 (by decide)) [0, 1] rfl (by decide) gX4_hashAfter_X4_valueAt rfl rfl rfl (by decide +kernel) ⟨Nat.le_of_ble_eq_true rfl, Nat.le_of_ble_eq_true rfl⟩ rfl rfl rfl rfl rfl (Nat.le_of_ble_eq_true rfl) dX4_hashAfter_40 (Nat.le_of_ble_eq_true rfl) (Nat.le_of_ble_eq_true rfl)) [0, 1] [] rfl rfl (by decide) (by decide) rfl rfl (fun r_1 u_2 h_3 => ?_)
      have e_4 : r_1 = f_X4_valueAt_r 168 24 7 ho hf (nI i) 0 := h_3
      refine sw_eq (ws' := [(h0, .inr (4, [.int 24, .int 7, .ref c0, .int ho, .int hn])), (c0, .inl (G.2.1.2, 168, .inr (.inl hf)))]) (lv' := [(6, .int 0), (5, .int (nI i)), (3, .long x3), (0, .ref h0), (1, .long a)]) (st' := [.long r_1, .long x3]) rfl rfl rfl ?_
      refine sw_calll (pc := 43) (wr := [(h0, .inr (4, [.int 24, .int 7, .ref c0, .int ho, .int hn])), (c0, .inl (G.2.1.2, 168, .inr (.inl hf)))]) (k' := 0) (n' := 0) F (sw_runSN (R := ({ frames := 2, cells := 0, slots := 0, locals := 46 } : Room)) (na := 2) F T.2.1 T.2.2.1 (k_X9_hashed l G x3 r_1) [] rfl (by decide) gX4_hashAfter_X9_hashed_n36 rfl rfl rfl (List.mem_of_getElem? (i := 4) rfl) (List.mem_of_getElem? (i := 10) rfl) (List.mem_of_getElem? (i := 3) rfl) (by decide +kernel) ⟨Nat.le_of_ble_eq_true rfl, Nat.le_of_ble_eq_true rfl⟩ rfl rfl (Nat.le_of_ble_eq_true rfl) dX4_hashAfter_43 (Nat.le_of_ble_eq_true rfl) (Nat.le_of_ble_eq_true rfl)) [] [0, 1] rfl rfl (by decide) (by decide) rfl rfl (fun r_5 u_6 h_7 => ?_)
      have e_8 : r_5 = f_X9_hashed_r x3 r_1 := h_7
      refine sw_eq (ws' := [(h0, .inr (4, [.int 24, .int 7, .ref c0, .int ho, .int hn])), (c0, .inl (G.2.1.2, 168, .inr (.inl hf)))]) (lv' := [(6, .int 0), (5, .int (nI i)), (3, .long x3), (0, .ref h0), (1, .long a)]) (st' := [.long r_5]) rfl rfl rfl ?_
      refine sw_lstore_n (pc := 46) (lv' := [(3, .long r_5), (6, .int 0), (5, .int (nI i)), (0, .ref h0), (1, .long a)]) F T.1 dX4_hashAfter_46 rfl (by decide) rfl ?_
      refine sw_iinc (pc := 47) (v := 1) (lv' := [(6, .int 1), (3, .long r_5), (5, .int (nI i)), (0, .ref h0), (1, .long a)]) F T.1 dX4_hashAfter_47 (q := 1) rfl rfl (by decide) rfl ?_
      refine sw_goto (pc := 50) (tgt := 25) F dX4_hashAfter_50 (by decide) ?_
      refine sw_iload (pc := 25) F dX4_hashAfter_25 0 rfl ?_
      refine sw_aload_n (pc := 27) F dX4_hashAfter_27 rfl 3 rfl ?_
      refine sw_get (pc := 28) (Cn := RX4) (T := TX4) (N := 5) (ci := 4) (v := .int 7) F in4 0 rfl rfl 1 (by decide) rfl (List.mem_of_getElem? (i := 2) rfl) rfl dX4_hashAfter_28 ?_
      refine sw_icmp_ge (pc := 31) (tgt := 53) F dX4_hashAfter_31 (by decide) (fun c => absurd c (by decide)) (fun _ => ?_)
      refine sw_lload_n (pc := 34) F dX4_hashAfter_34 rfl 1 rfl ?_
      refine sw_aload_n (pc := 35) F dX4_hashAfter_35 rfl 3 rfl ?_
      refine sw_iload (pc := 36) F dX4_hashAfter_36 2 rfl ?_
      refine sw_iload (pc := 38) F dX4_hashAfter_38 0 rfl ?_
      refine sw_calll (pc := 40) (wr := []) (k' := 0) (n' := 0) F (sw_runV (R := ({ frames := 2, cells := 0, slots := 0, locals := 46 } : Room)) (q0 := 0) (na := 2) F T.2.1 T.2.2.1 (k_X4_valueAt l G h0 c0 168 24 7 ho hn hf (nI i) 1 (by decide)) [0, 1] rfl (by decide) gX4_hashAfter_X4_valueAt rfl rfl rfl (by decide +kernel) ⟨Nat.le_of_ble_eq_true rfl, Nat.le_of_ble_eq_true rfl⟩ rfl rfl rfl rfl rfl (Nat.le_of_ble_eq_true rfl) dX4_hashAfter_40 (Nat.le_of_ble_eq_true rfl) (Nat.le_of_ble_eq_true rfl)) [0, 1] [] rfl rfl (by decide) (by decide) rfl rfl (fun r_9 u_10 h_11 => ?_)
      have e_12 : r_9 = f_X4_valueAt_r 168 24 7 ho hf (nI i) 1 := h_11
      refine sw_eq (ws' := [(h0, .inr (4, [.int 24, .int 7, .ref c0, .int ho, .int hn])), (c0, .inl (G.2.1.2, 168, .inr (.inl hf)))]) (lv' := [(6, .int 1), (3, .long r_5), (5, .int (nI i)), (0, .ref h0), (1, .long a)]) (st' := [.long r_9, .long r_5]) rfl rfl rfl ?_
      refine sw_calll (pc := 43) (wr := [(h0, .inr (4, [.int 24, .int 7, .ref c0, .int ho, .int hn])), (c0, .inl (G.2.1.2, 168, .inr (.inl hf)))]) (k' := 0) (n' := 0) F (sw_runSN (R := ({ frames := 2, cells := 0, slots := 0, locals := 46 } : Room)) (na := 2) F T.2.1 T.2.2.1 (k_X9_hashed l G r_5 r_9) [] rfl (by decide) gX4_hashAfter_X9_hashed_n36 rfl rfl rfl (List.mem_of_getElem? (i := 4) rfl) (List.mem_of_getElem? (i := 10) rfl) (List.mem_of_getElem? (i := 3) rfl) (by decide +kernel) ⟨Nat.le_of_ble_eq_true rfl, Nat.le_of_ble_eq_true rfl⟩ rfl rfl (Nat.le_of_ble_eq_true rfl) dX4_hashAfter_43 (Nat.le_of_ble_eq_true rfl) (Nat.le_of_ble_eq_true rfl)) [] [0, 1] rfl rfl (by decide) (by decide) rfl rfl (fun r_13 u_14 h_15 => ?_)
      have e_16 : r_13 = f_X9_hashed_r r_5 r_9 := h_15
      refine sw_eq (ws' := [(h0, .inr (4, [.int 24, .int 7, .ref c0, .int ho, .int hn])), (c0, .inl (G.2.1.2, 168, .inr (.inl hf)))]) (lv' := [(6, .int 1), (3, .long r_5), (5, .int (nI i)), (0, .ref h0), (1, .long a)]) (st' := [.long r_13]) rfl rfl rfl ?_
      refine sw_lstore_n (pc := 46) (lv' := [(3, .long r_13), (6, .int 1), (5, .int (nI i)), (0, .ref h0), (1, .long a)]) F T.1 dX4_hashAfter_46 rfl (by decide) rfl ?_
      refine sw_iinc (pc := 47) (v := 2) (lv' := [(6, .int 2), (3, .long r_13), (5, .int (nI i)), (0, .ref h0), (1, .long a)]) F T.1 dX4_hashAfter_47 (q := 1) rfl rfl (by decide) rfl ?_
      refine sw_goto (pc := 50) (tgt := 25) F dX4_hashAfter_50 (by decide) ?_
      refine sw_iload (pc := 25) F dX4_hashAfter_25 0 rfl ?_
      refine sw_aload_n (pc := 27) F dX4_hashAfter_27 rfl 3 rfl ?_
      refine sw_get (pc := 28) (Cn := RX4) (T := TX4) (N := 5) (ci := 4) (v := .int 7) F in4 0 rfl rfl 1 (by decide) rfl (List.mem_of_getElem? (i := 2) rfl) rfl dX4_hashAfter_28 ?_
      refine sw_icmp_ge (pc := 31) (tgt := 53) F dX4_hashAfter_31 (by decide) (fun c => absurd c (by decide)) (fun _ => ?_)
      refine sw_lload_n (pc := 34) F dX4_hashAfter_34 rfl 1 rfl ?_
      refine sw_aload_n (pc := 35) F dX4_hashAfter_35 rfl 3 rfl ?_
      refine sw_iload (pc := 36) F dX4_hashAfter_36 2 rfl ?_
      refine sw_iload (pc := 38) F dX4_hashAfter_38 0 rfl ?_
      refine sw_calll (pc := 40) (wr := []) (k' := 0) (n' := 0) F (sw_runV (R := ({ frames := 2, cells := 0, slots := 0, locals := 46 } : Room)) (q0 := 0) (na := 2) F T.2.1 T.2.2.1 (k_X4_valueAt l G h0 c0 168 24 7 ho hn hf (nI i) 2 (by decide)) [0, 1] rfl (by decide) gX4_hashAfter_X4_valueAt rfl rfl rfl (by decide +kernel) ⟨Nat.le_of_ble_eq_true rfl, Nat.le_of_ble_eq_true rfl⟩ rfl rfl rfl rfl rfl (Nat.le_of_ble_eq_true rfl) dX4_hashAfter_40 (Nat.le_of_ble_eq_true rfl) (Nat.le_of_ble_eq_true rfl)) [0, 1] [] rfl rfl (by decide) (by decide) rfl rfl (fun r_17 u_18 h_19 => ?_)
      have e_20 : r_17 = f_X4_valueAt_r 168 24 7 ho hf (nI i) 2 := h_19
      refine sw_eq (ws' := [(h0, .inr (4, [.int 24, .int 7, .ref c0, .int ho, .int hn])), (c0, .inl (G.2.1.2, 168, .inr (.inl hf)))]) (lv' := [(6, .int 2), (3, .long r_13), (5, .int (nI i)), (0, .ref h0), (1, .long a)]) (st' := [.long r_17, .long r_13]) rfl rfl rfl ?_
      refine sw_calll (pc := 43) (wr := [(h0, .inr (4, [.int 24, .int 7, .ref c0, .int ho, .int hn])), (c0, .inl (G.2.1.2, 168, .inr (.inl hf)))]) (k' := 0) (n' := 0) F (sw_runSN (R := ({ frames := 2, cells := 0, slots := 0, locals := 46 } : Room)) (na := 2) F T.2.1 T.2.2.1 (k_X9_hashed l G r_13 r_17) [] rfl (by decide) gX4_hashAfter_X9_hashed_n36 rfl rfl rfl (List.mem_of_getElem? (i := 4) rfl) (List.mem_of_getElem? (i := 10) rfl) (List.mem_of_getElem? (i := 3) rfl) (by decide +kernel) ⟨Nat.le_of_ble_eq_true rfl, Nat.le_of_ble_eq_true rfl⟩ rfl rfl (Nat.le_of_ble_eq_true rfl) dX4_hashAfter_43 (Nat.le_of_ble_eq_true rfl) (Nat.le_of_ble_eq_true rfl)) [] [0, 1] rfl rfl (by decide) (by decide) rfl rfl (fun r_21 u_22 h_23 => ?_)
      have e_24 : r_21 = f_X9_hashed_r r_13 r_17 := h_23
      refine sw_eq (ws' := [(h0, .inr (4, [.int 24, .int 7, .ref c0, .int ho, .int hn])), (c0, .inl (G.2.1.2, 168, .inr (.inl hf)))]) (lv' := [(6, .int 2), (3, .long r_13), (5, .int (nI i)), (0, .ref h0), (1, .long a)]) (st' := [.long r_21]) rfl rfl rfl ?_
      refine sw_lstore_n (pc := 46) (lv' := [(3, .long r_21), (6, .int 2), (5, .int (nI i)), (0, .ref h0), (1, .long a)]) F T.1 dX4_hashAfter_46 rfl (by decide) rfl ?_
      refine sw_iinc (pc := 47) (v := 3) (lv' := [(6, .int 3), (3, .long r_21), (5, .int (nI i)), (0, .ref h0), (1, .long a)]) F T.1 dX4_hashAfter_47 (q := 1) rfl rfl (by decide) rfl ?_
      refine sw_goto (pc := 50) (tgt := 25) F dX4_hashAfter_50 (by decide) ?_
      refine sw_iload (pc := 25) F dX4_hashAfter_25 0 rfl ?_
      refine sw_aload_n (pc := 27) F dX4_hashAfter_27 rfl 3 rfl ?_
      refine sw_get (pc := 28) (Cn := RX4) (T := TX4) (N := 5) (ci := 4) (v := .int 7) F in4 0 rfl rfl 1 (by decide) rfl (List.mem_of_getElem? (i := 2) rfl) rfl dX4_hashAfter_28 ?_
      refine sw_icmp_ge (pc := 31) (tgt := 53) F dX4_hashAfter_31 (by decide) (fun c => absurd c (by decide)) (fun _ => ?_)
      refine sw_lload_n (pc := 34) F dX4_hashAfter_34 rfl 1 rfl ?_
      refine sw_aload_n (pc := 35) F dX4_hashAfter_35 rfl 3 rfl ?_
      refine sw_iload (pc := 36) F dX4_hashAfter_36 2 rfl ?_
      refine sw_iload (pc := 38) F dX4_hashAfter_38 0 rfl ?_
      refine sw_calll (pc := 40) (wr := []) (k' := 0) (n' := 0) F (sw_runV (R := ({ frames := 2, cells := 0, slots := 0, locals := 46 } : Room)) (q0 := 0) (na := 2) F T.2.1 T.2.2.1 (k_X4_valueAt l G h0 c0 168 24 7 ho hn hf (nI i) 3 (by decide)) [0, 1] rfl (by decide) gX4_hashAfter_X4_valueAt rfl rfl rfl (by decide +kernel) ⟨Nat.le_of_ble_eq_true rfl, Nat.le_of_ble_eq_true rfl⟩ rfl rfl rfl rfl rfl (Nat.le_of_ble_eq_true rfl) dX4_hashAfter_40 (Nat.le_of_ble_eq_true rfl) (Nat.le_of_ble_eq_true rfl)) [0, 1] [] rfl rfl (by decide) (by decide) rfl rfl (fun r_25 u_26 h_27 => ?_)
      have e_28 : r_25 = f_X4_valueAt_r 168 24 7 ho hf (nI i) 3 := h_27
      refine sw_eq (ws' := [(h0, .inr (4, [.int 24, .int 7, .ref c0, .int ho, .int hn])), (c0, .inl (G.2.1.2, 168, .inr (.inl hf)))]) (lv' := [(6, .int 3), (3, .long r_21), (5, .int (nI i)), (0, .ref h0), (1, .long a)]) (st' := [.long r_25, .long r_21]) rfl rfl rfl ?_
      refine sw_calll (pc := 43) (wr := [(h0, .inr (4, [.int 24, .int 7, .ref c0, .int ho, .int hn])), (c0, .inl (G.2.1.2, 168, .inr (.inl hf)))]) (k' := 0) (n' := 0) F (sw_runSN (R := ({ frames := 2, cells := 0, slots := 0, locals := 46 } : Room)) (na := 2) F T.2.1 T.2.2.1 (k_X9_hashed l G r_21 r_25) [] rfl (by decide) gX4_hashAfter_X9_hashed_n36 rfl rfl rfl (List.mem_of_getElem? (i := 4) rfl) (List.mem_of_getElem? (i := 10) rfl) (List.mem_of_getElem? (i := 3) rfl) (by decide +kernel) ⟨Nat.le_of_ble_eq_true rfl, Nat.le_of_ble_eq_true rfl⟩ rfl rfl (Nat.le_of_ble_eq_true rfl) dX4_hashAfter_43 (Nat.le_of_ble_eq_true rfl) (Nat.le_of_ble_eq_true rfl)) [] [0, 1] rfl rfl (by decide) (by decide) rfl rfl (fun r_29 u_30 h_31 => ?_)
      have e_32 : r_29 = f_X9_hashed_r r_21 r_25 := h_31
      refine sw_eq (ws' := [(h0, .inr (4, [.int 24, .int 7, .ref c0, .int ho, .int hn])), (c0, .inl (G.2.1.2, 168, .inr (.inl hf)))]) (lv' := [(6, .int 3), (3, .long r_21), (5, .int (nI i)), (0, .ref h0), (1, .long a)]) (st' := [.long r_29]) rfl rfl rfl ?_
      refine sw_lstore_n (pc := 46) (lv' := [(3, .long r_29), (6, .int 3), (5, .int (nI i)), (0, .ref h0), (1, .long a)]) F T.1 dX4_hashAfter_46 rfl (by decide) rfl ?_
      refine sw_iinc (pc := 47) (v := 4) (lv' := [(6, .int 4), (3, .long r_29), (5, .int (nI i)), (0, .ref h0), (1, .long a)]) F T.1 dX4_hashAfter_47 (q := 1) rfl rfl (by decide) rfl ?_
      refine sw_goto (pc := 50) (tgt := 25) F dX4_hashAfter_50 (by decide) ?_
      refine sw_iload (pc := 25) F dX4_hashAfter_25 0 rfl ?_
      refine sw_aload_n (pc := 27) F dX4_hashAfter_27 rfl 3 rfl ?_
      refine sw_get (pc := 28) (Cn := RX4) (T := TX4) (N := 5) (ci := 4) (v := .int 7) F in4 0 rfl rfl 1 (by decide) rfl (List.mem_of_getElem? (i := 2) rfl) rfl dX4_hashAfter_28 ?_
      refine sw_icmp_ge (pc := 31) (tgt := 53) F dX4_hashAfter_31 (by decide) (fun c => absurd c (by decide)) (fun _ => ?_)
      refine sw_lload_n (pc := 34) F dX4_hashAfter_34 rfl 1 rfl ?_
      refine sw_aload_n (pc := 35) F dX4_hashAfter_35 rfl 3 rfl ?_
      refine sw_iload (pc := 36) F dX4_hashAfter_36 2 rfl ?_
      refine sw_iload (pc := 38) F dX4_hashAfter_38 0 rfl ?_
      refine sw_calll (pc := 40) (wr := []) (k' := 0) (n' := 0) F (sw_runV (R := ({ frames := 2, cells := 0, slots := 0, locals := 46 } : Room)) (q0 := 0) (na := 2) F T.2.1 T.2.2.1 (k_X4_valueAt l G h0 c0 168 24 7 ho hn hf (nI i) 4 (by decide)) [0, 1] rfl (by decide) gX4_hashAfter_X4_valueAt rfl rfl rfl (by decide +kernel) ⟨Nat.le_of_ble_eq_true rfl, Nat.le_of_ble_eq_true rfl⟩ rfl rfl rfl rfl rfl (Nat.le_of_ble_eq_true rfl) dX4_hashAfter_40 (Nat.le_of_ble_eq_true rfl) (Nat.le_of_ble_eq_true rfl)) [0, 1] [] rfl rfl (by decide) (by decide) rfl rfl (fun r_33 u_34 h_35 => ?_)
      have e_36 : r_33 = f_X4_valueAt_r 168 24 7 ho hf (nI i) 4 := h_35
      refine sw_eq (ws' := [(h0, .inr (4, [.int 24, .int 7, .ref c0, .int ho, .int hn])), (c0, .inl (G.2.1.2, 168, .inr (.inl hf)))]) (lv' := [(6, .int 4), (3, .long r_29), (5, .int (nI i)), (0, .ref h0), (1, .long a)]) (st' := [.long r_33, .long r_29]) rfl rfl rfl ?_
      refine sw_calll (pc := 43) (wr := [(h0, .inr (4, [.int 24, .int 7, .ref c0, .int ho, .int hn])), (c0, .inl (G.2.1.2, 168, .inr (.inl hf)))]) (k' := 0) (n' := 0) F (sw_runSN (R := ({ frames := 2, cells := 0, slots := 0, locals := 46 } : Room)) (na := 2) F T.2.1 T.2.2.1 (k_X9_hashed l G r_29 r_33) [] rfl (by decide) gX4_hashAfter_X9_hashed_n36 rfl rfl rfl (List.mem_of_getElem? (i := 4) rfl) (List.mem_of_getElem? (i := 10) rfl) (List.mem_of_getElem? (i := 3) rfl) (by decide +kernel) ⟨Nat.le_of_ble_eq_true rfl, Nat.le_of_ble_eq_true rfl⟩ rfl rfl (Nat.le_of_ble_eq_true rfl) dX4_hashAfter_43 (Nat.le_of_ble_eq_true rfl) (Nat.le_of_ble_eq_true rfl)) [] [0, 1] rfl rfl (by decide) (by decide) rfl rfl (fun r_37 u_38 h_39 => ?_)
      have e_40 : r_37 = f_X9_hashed_r r_29 r_33 := h_39
      refine sw_eq (ws' := [(h0, .inr (4, [.int 24, .int 7, .ref c0, .int ho, .int hn])), (c0, .inl (G.2.1.2, 168, .inr (.inl hf)))]) (lv' := [(6, .int 4), (3, .long r_29), (5, .int (nI i)), (0, .ref h0), (1, .long a)]) (st' := [.long r_37]) rfl rfl rfl ?_
      refine sw_lstore_n (pc := 46) (lv' := [(3, .long r_37), (6, .int 4), (5, .int (nI i)), (0, .ref h0), (1, .long a)]) F T.1 dX4_hashAfter_46 rfl (by decide) rfl ?_
      refine sw_iinc (pc := 47) (v := 5) (lv' := [(6, .int 5), (3, .long r_37), (5, .int (nI i)), (0, .ref h0), (1, .long a)]) F T.1 dX4_hashAfter_47 (q := 1) rfl rfl (by decide) rfl ?_
      refine sw_goto (pc := 50) (tgt := 25) F dX4_hashAfter_50 (by decide) ?_
      refine sw_iload (pc := 25) F dX4_hashAfter_25 0 rfl ?_
      refine sw_aload_n (pc := 27) F dX4_hashAfter_27 rfl 3 rfl ?_
      refine sw_get (pc := 28) (Cn := RX4) (T := TX4) (N := 5) (ci := 4) (v := .int 7) F in4 0 rfl rfl 1 (by decide) rfl (List.mem_of_getElem? (i := 2) rfl) rfl dX4_hashAfter_28 ?_
      refine sw_icmp_ge (pc := 31) (tgt := 53) F dX4_hashAfter_31 (by decide) (fun c => absurd c (by decide)) (fun _ => ?_)
      refine sw_lload_n (pc := 34) F dX4_hashAfter_34 rfl 1 rfl ?_
      refine sw_aload_n (pc := 35) F dX4_hashAfter_35 rfl 3 rfl ?_
      refine sw_iload (pc := 36) F dX4_hashAfter_36 2 rfl ?_
      refine sw_iload (pc := 38) F dX4_hashAfter_38 0 rfl ?_
      refine sw_calll (pc := 40) (wr := []) (k' := 0) (n' := 0) F (sw_runV (R := ({ frames := 2, cells := 0, slots := 0, locals := 46 } : Room)) (q0 := 0) (na := 2) F T.2.1 T.2.2.1 (k_X4_valueAt l G h0 c0 168 24 7 ho hn hf (nI i) 5 (by decide)) [0, 1] rfl (by decide) gX4_hashAfter_X4_valueAt rfl rfl rfl (by decide +kernel) ⟨Nat.le_of_ble_eq_true rfl, Nat.le_of_ble_eq_true rfl⟩ rfl rfl rfl rfl rfl (Nat.le_of_ble_eq_true rfl) dX4_hashAfter_40 (Nat.le_of_ble_eq_true rfl) (Nat.le_of_ble_eq_true rfl)) [0, 1] [] rfl rfl (by decide) (by decide) rfl rfl (fun r_41 u_42 h_43 => ?_)
      have e_44 : r_41 = f_X4_valueAt_r 168 24 7 ho hf (nI i) 5 := h_43
      refine sw_eq (ws' := [(h0, .inr (4, [.int 24, .int 7, .ref c0, .int ho, .int hn])), (c0, .inl (G.2.1.2, 168, .inr (.inl hf)))]) (lv' := [(6, .int 5), (3, .long r_37), (5, .int (nI i)), (0, .ref h0), (1, .long a)]) (st' := [.long r_41, .long r_37]) rfl rfl rfl ?_
      refine sw_calll (pc := 43) (wr := [(h0, .inr (4, [.int 24, .int 7, .ref c0, .int ho, .int hn])), (c0, .inl (G.2.1.2, 168, .inr (.inl hf)))]) (k' := 0) (n' := 0) F (sw_runSN (R := ({ frames := 2, cells := 0, slots := 0, locals := 46 } : Room)) (na := 2) F T.2.1 T.2.2.1 (k_X9_hashed l G r_37 r_41) [] rfl (by decide) gX4_hashAfter_X9_hashed_n36 rfl rfl rfl (List.mem_of_getElem? (i := 4) rfl) (List.mem_of_getElem? (i := 10) rfl) (List.mem_of_getElem? (i := 3) rfl) (by decide +kernel) ⟨Nat.le_of_ble_eq_true rfl, Nat.le_of_ble_eq_true rfl⟩ rfl rfl (Nat.le_of_ble_eq_true rfl) dX4_hashAfter_43 (Nat.le_of_ble_eq_true rfl) (Nat.le_of_ble_eq_true rfl)) [] [0, 1] rfl rfl (by decide) (by decide) rfl rfl (fun r_45 u_46 h_47 => ?_)
      have e_48 : r_45 = f_X9_hashed_r r_37 r_41 := h_47
      refine sw_eq (ws' := [(h0, .inr (4, [.int 24, .int 7, .ref c0, .int ho, .int hn])), (c0, .inl (G.2.1.2, 168, .inr (.inl hf)))]) (lv' := [(6, .int 5), (3, .long r_37), (5, .int (nI i)), (0, .ref h0), (1, .long a)]) (st' := [.long r_45]) rfl rfl rfl ?_
      refine sw_lstore_n (pc := 46) (lv' := [(3, .long r_45), (6, .int 5), (5, .int (nI i)), (0, .ref h0), (1, .long a)]) F T.1 dX4_hashAfter_46 rfl (by decide) rfl ?_
      refine sw_iinc (pc := 47) (v := 6) (lv' := [(6, .int 6), (3, .long r_45), (5, .int (nI i)), (0, .ref h0), (1, .long a)]) F T.1 dX4_hashAfter_47 (q := 1) rfl rfl (by decide) rfl ?_
      refine sw_goto (pc := 50) (tgt := 25) F dX4_hashAfter_50 (by decide) ?_
      refine sw_iload (pc := 25) F dX4_hashAfter_25 0 rfl ?_
      refine sw_aload_n (pc := 27) F dX4_hashAfter_27 rfl 3 rfl ?_
      refine sw_get (pc := 28) (Cn := RX4) (T := TX4) (N := 5) (ci := 4) (v := .int 7) F in4 0 rfl rfl 1 (by decide) rfl (List.mem_of_getElem? (i := 2) rfl) rfl dX4_hashAfter_28 ?_
      refine sw_icmp_ge (pc := 31) (tgt := 53) F dX4_hashAfter_31 (by decide) (fun c => absurd c (by decide)) (fun _ => ?_)
      refine sw_lload_n (pc := 34) F dX4_hashAfter_34 rfl 1 rfl ?_
      refine sw_aload_n (pc := 35) F dX4_hashAfter_35 rfl 3 rfl ?_
      refine sw_iload (pc := 36) F dX4_hashAfter_36 2 rfl ?_
      refine sw_iload (pc := 38) F dX4_hashAfter_38 0 rfl ?_
      refine sw_calll (pc := 40) (wr := []) (k' := 0) (n' := 0) F (sw_runV (R := ({ frames := 2, cells := 0, slots := 0, locals := 46 } : Room)) (q0 := 0) (na := 2) F T.2.1 T.2.2.1 (k_X4_valueAt l G h0 c0 168 24 7 ho hn hf (nI i) 6 (by decide)) [0, 1] rfl (by decide) gX4_hashAfter_X4_valueAt rfl rfl rfl (by decide +kernel) ⟨Nat.le_of_ble_eq_true rfl, Nat.le_of_ble_eq_true rfl⟩ rfl rfl rfl rfl rfl (Nat.le_of_ble_eq_true rfl) dX4_hashAfter_40 (Nat.le_of_ble_eq_true rfl) (Nat.le_of_ble_eq_true rfl)) [0, 1] [] rfl rfl (by decide) (by decide) rfl rfl (fun r_49 u_50 h_51 => ?_)
      have e_52 : r_49 = f_X4_valueAt_r 168 24 7 ho hf (nI i) 6 := h_51
      refine sw_eq (ws' := [(h0, .inr (4, [.int 24, .int 7, .ref c0, .int ho, .int hn])), (c0, .inl (G.2.1.2, 168, .inr (.inl hf)))]) (lv' := [(6, .int 6), (3, .long r_45), (5, .int (nI i)), (0, .ref h0), (1, .long a)]) (st' := [.long r_49, .long r_45]) rfl rfl rfl ?_
      refine sw_calll (pc := 43) (wr := [(h0, .inr (4, [.int 24, .int 7, .ref c0, .int ho, .int hn])), (c0, .inl (G.2.1.2, 168, .inr (.inl hf)))]) (k' := 0) (n' := 0) F (sw_runSN (R := ({ frames := 2, cells := 0, slots := 0, locals := 46 } : Room)) (na := 2) F T.2.1 T.2.2.1 (k_X9_hashed l G r_45 r_49) [] rfl (by decide) gX4_hashAfter_X9_hashed_n36 rfl rfl rfl (List.mem_of_getElem? (i := 4) rfl) (List.mem_of_getElem? (i := 10) rfl) (List.mem_of_getElem? (i := 3) rfl) (by decide +kernel) ⟨Nat.le_of_ble_eq_true rfl, Nat.le_of_ble_eq_true rfl⟩ rfl rfl (Nat.le_of_ble_eq_true rfl) dX4_hashAfter_43 (Nat.le_of_ble_eq_true rfl) (Nat.le_of_ble_eq_true rfl)) [] [0, 1] rfl rfl (by decide) (by decide) rfl rfl (fun r_53 u_54 h_55 => ?_)
      have e_56 : r_53 = f_X9_hashed_r r_45 r_49 := h_55
      refine sw_eq (ws' := [(h0, .inr (4, [.int 24, .int 7, .ref c0, .int ho, .int hn])), (c0, .inl (G.2.1.2, 168, .inr (.inl hf)))]) (lv' := [(6, .int 6), (3, .long r_45), (5, .int (nI i)), (0, .ref h0), (1, .long a)]) (st' := [.long r_53]) rfl rfl rfl ?_
      refine sw_lstore_n (pc := 46) (lv' := [(3, .long r_53), (6, .int 6), (5, .int (nI i)), (0, .ref h0), (1, .long a)]) F T.1 dX4_hashAfter_46 rfl (by decide) rfl ?_
      refine sw_iinc (pc := 47) (v := 7) (lv' := [(6, .int 7), (3, .long r_53), (5, .int (nI i)), (0, .ref h0), (1, .long a)]) F T.1 dX4_hashAfter_47 (q := 1) rfl rfl (by decide) rfl ?_
      refine sw_goto (pc := 50) (tgt := 25) F dX4_hashAfter_50 (by decide) ?_
      refine sw_iload (pc := 25) F dX4_hashAfter_25 0 rfl ?_
      refine sw_aload_n (pc := 27) F dX4_hashAfter_27 rfl 3 rfl ?_
      refine sw_get (pc := 28) (Cn := RX4) (T := TX4) (N := 5) (ci := 4) (v := .int 7) F in4 0 rfl rfl 1 (by decide) rfl (List.mem_of_getElem? (i := 2) rfl) rfl dX4_hashAfter_28 ?_
      refine sw_icmp_ge (pc := 31) (tgt := 53) F dX4_hashAfter_31 (by decide) (fun _ => ?_) (fun c => absurd c (by decide))
      obtain ⟨x_57, ex_57⟩ : ∃ y : Int32, y = (nI i) + 1 := ⟨_, rfl⟩
      refine sw_iinc (pc := 53) (v := x_57) (lv' := [(5, .int x_57), (6, .int 7), (3, .long r_53), (0, .ref h0), (1, .long a)]) F T.1 dX4_hashAfter_53 (q := 2) rfl ex_57.symm (by decide) rfl ?_
      refine sw_goto (pc := 56) (tgt := 13) F dX4_hashAfter_56 (by decide) ?_
      refine sw_lvs (is := [0, 2, 3, 4]) (lv' := [(5, .int x_57), (3, .long r_53), (0, .ref h0), (1, .long a)]) rfl ?_
      subst ex_57
      subst e_56
      subst e_52
      subst e_48
      subst e_44
      subst e_40
      subst e_36
      subst e_32
      subst e_28
      subst e_24
      subst e_20
      subst e_16
      subst e_12
      subst e_8
      subst e_4
      refine sw_eq (lv' := [(5, .int (nI (i + 1))), (3, .long _), (0, .ref h0), (1, .long a)]) rfl (by rw [nI_1]) rfl ?_
      exact ih (i + 1) (by omega) _ (by rw [hx]; rfl)
  refine sw_lload_n (pc := 0) F dX4_hashAfter_0 rfl 1 rfl ?_
  refine sw_aload_n (pc := 1) F dX4_hashAfter_1 rfl 0 rfl ?_
  refine sw_get (pc := 2) (Cn := RX4) (T := TX4) (N := 5) (ci := 4) (v := .int hn) F in4 0 rfl rfl 4 (by decide) rfl (List.mem_of_getElem? (i := 1) rfl) rfl dX4_hashAfter_2 ?_
  refine sw_i2l (pc := 5) F dX4_hashAfter_5 rfl ?_
  refine sw_calll (pc := 6) (wr := [(h0, .inr (4, [.int 24, .int 7, .ref c0, .int ho, .int hn])), (c0, .inl (G.2.1.2, 168, .inr (.inl hf)))]) (k' := 0) (n' := 0) F (sw_runSN (R := ({ frames := 2, cells := 0, slots := 0, locals := 46 } : Room)) (na := 2) F T.2.1 T.2.2.1 (k_X9_hashed l G a hn.toInt64) [] rfl (by decide) gX4_hashAfter_X9_hashed_n36 rfl rfl rfl (List.mem_of_getElem? (i := 4) rfl) (List.mem_of_getElem? (i := 10) rfl) (List.mem_of_getElem? (i := 3) rfl) (by decide +kernel) ⟨Nat.le_of_ble_eq_true rfl, Nat.le_of_ble_eq_true rfl⟩ rfl rfl (Nat.le_of_ble_eq_true rfl) dX4_hashAfter_6 (Nat.le_of_ble_eq_true rfl) (Nat.le_of_ble_eq_true rfl)) [] [0, 1] rfl rfl (by decide) (by decide) rfl rfl (fun r_58 u_59 h_60 => ?_)
  have e_61 : r_58 = f_X9_hashed_r a hn.toInt64 := h_60
  refine sw_eq (ws' := [(h0, .inr (4, [.int 24, .int 7, .ref c0, .int ho, .int hn])), (c0, .inl (G.2.1.2, 168, .inr (.inl hf)))]) (lv' := [(0, .ref h0), (1, .long a)]) (st' := [.long r_58]) rfl rfl rfl ?_
  refine sw_lstore_n (pc := 9) (lv' := [(3, .long r_58), (0, .ref h0), (1, .long a)]) F T.1 dX4_hashAfter_9 rfl (by decide) rfl ?_
  refine sw_iconst (pc := 10) (v := 0) F dX4_hashAfter_10 rfl ?_
  refine sw_istore (pc := 11) (lv' := [(5, .int 0), (3, .long r_58), (0, .ref h0), (1, .long a)]) F T.1 dX4_hashAfter_11 (by decide) rfl ?_
  refine sw_lvs (is := [0, 1, 2, 3]) (lv' := [(5, .int 0), (3, .long r_58), (0, .ref h0), (1, .long a)]) rfl ?_
  subst e_61
  exact loop N 0 (by omega) _ rfl
set_option maxHeartbeats 4000000 in
set_option maxRecDepth 100000 in
theorem k_X4_hashAfter_20 (l : Launch) (G : sw_E) (h0 : Nat) (c0 : Nat) (ho : Int32) (hn : Int32) (hf : Nat → Int64) (a : Int64) (hn0 : 0 ≤ hn.toInt) : sw_M l G yX4_hashAfter wsX4_hashAfter ({ frames := 2, cells := 0, slots := 0, locals := 46 } : Room) [.ref h0, .long a] [(h0, .inr (4, [.int 5, .int 4, .ref c0, .int ho, .int hn])), (c0, .inl (G.2.1.2, 20, .inr (.inl hf)))] (sw_QL G (S := Unit) (fun (r : Int64) (u : Unit) => r = hr_out (fun i j => f_X4_valueAt_r 20 5 4 ho hf (nI i) (nI j)) 4 (f_X9_hashed_r a hn.toInt64) hn.toNatClampNeg) (fun u => [(h0, .inr (4, [.int 5, .int 4, .ref c0, .int ho, .int hn])), (c0, .inl (G.2.1.2, 20, .inr (.inl hf)))])) 0 0 := by
  refine sw_start (cc := cX4_hashAfter) (maxL := 7) (ret := some .long) (lv := [(0, .ref h0), (1, .long a)]) (own := RX4) (nm := "hashAfter") (by decide +kernel) rfl rfl rfl rfl (Nat.le_of_ble_eq_true rfl) (fun C F T => ?_)
  have in4 : ∀ w ∈ u_ws RX4 TX4 5, w ∈ wsX4_hashAfter := fun w h => List.mem_cons_of_mem _ (List.mem_append_right _ (h))
  have hm : hn = nI hn.toNatClampNeg := (nI_back hn0).symm
  have hm2 := nI_lt31 hn
  generalize hN : hn.toNatClampNeg = N at hm hm2 T
  have loop : ∀ (m i : Nat), i + m = N → ∀ (x3 : Int64), x3 = hr_out (fun i j => f_X4_valueAt_r 20 5 4 ho hf (nI i) (nI j)) 4 (f_X9_hashed_r a hn.toInt64) i → SW G C 0 0 [(h0, .inr (4, [.int 5, .int 4, .ref c0, .int ho, .int hn])), (c0, .inl (G.2.1.2, 20, .inr (.inl hf)))] [(5, .int (nI i)), (3, .long x3), (0, .ref h0), (1, .long a)] 13 [] := by
    intro m
    induction m with
    | zero =>
      intro i hi x3 hx
      refine sw_iload (pc := 13) F dX4_hashAfter_13 0 rfl ?_
      refine sw_aload_n (pc := 15) F dX4_hashAfter_15 rfl 2 rfl ?_
      refine sw_get (pc := 16) (Cn := RX4) (T := TX4) (N := 5) (ci := 4) (v := .int hn) F in4 0 rfl rfl 4 (by decide) rfl (List.mem_of_getElem? (i := 1) rfl) rfl dX4_hashAfter_16 ?_
      refine sw_icmp_ge (pc := 19) (tgt := 59) F dX4_hashAfter_19 (by decide) (fun _ => ?_) (fun c => absurd (by rw [hm, show i = N by omega]; exact nI_le (Nat.le_refl N) hm2) c)
      refine sw_lload_n (pc := 59) F dX4_hashAfter_59 rfl 1 rfl ?_
      exact sw_lret (pc := 60) F T () (by rw [hx, show i = N by omega]) rfl dX4_hashAfter_60
    | succ m ih =>
      intro i hi x3 hx
      refine sw_iload (pc := 13) F dX4_hashAfter_13 0 rfl ?_
      refine sw_aload_n (pc := 15) F dX4_hashAfter_15 rfl 2 rfl ?_
      refine sw_get (pc := 16) (Cn := RX4) (T := TX4) (N := 5) (ci := 4) (v := .int hn) F in4 0 rfl rfl 4 (by decide) rfl (List.mem_of_getElem? (i := 1) rfl) rfl dX4_hashAfter_16 ?_
      refine sw_icmp_ge (pc := 19) (tgt := 59) F dX4_hashAfter_19 (by decide) (fun c => absurd c (by rw [hm]; exact nI_ge (by omega) hm2)) (fun _ => ?_)
      refine sw_iconst (pc := 22) (v := 0) F dX4_hashAfter_22 rfl ?_
      refine sw_istore (pc := 23) (lv' := [(6, .int 0), (5, .int (nI i)), (3, .long x3), (0, .ref h0), (1, .long a)]) F T.1 dX4_hashAfter_23 (by decide) rfl ?_
      refine sw_iload (pc := 25) F dX4_hashAfter_25 0 rfl ?_
      refine sw_aload_n (pc := 27) F dX4_hashAfter_27 rfl 3 rfl ?_
      refine sw_get (pc := 28) (Cn := RX4) (T := TX4) (N := 5) (ci := 4) (v := .int 4) F in4 0 rfl rfl 1 (by decide) rfl (List.mem_of_getElem? (i := 2) rfl) rfl dX4_hashAfter_28 ?_
      refine sw_icmp_ge (pc := 31) (tgt := 53) F dX4_hashAfter_31 (by decide) (fun c => absurd c (by decide)) (fun _ => ?_)
      refine sw_lload_n (pc := 34) F dX4_hashAfter_34 rfl 2 rfl ?_
      refine sw_aload_n (pc := 35) F dX4_hashAfter_35 rfl 3 rfl ?_
      refine sw_iload (pc := 36) F dX4_hashAfter_36 1 rfl ?_
      refine sw_iload (pc := 38) F dX4_hashAfter_38 0 rfl ?_
      refine sw_calll (pc := 40) (wr := []) (k' := 0) (n' := 0) F (sw_runV (R := ({ frames := 2, cells := 0, slots := 0, locals := 46 } : Room)) (q0 := 0) (na := 2) F T.2.1 T.2.2.1 (k_X4_valueAt l G h0 c0 20 5 4 ho hn hf (nI i) 0 (by decide)) [0, 1] rfl (by decide) gX4_hashAfter_X4_valueAt rfl rfl rfl (by decide +kernel) ⟨Nat.le_of_ble_eq_true rfl, Nat.le_of_ble_eq_true rfl⟩ rfl rfl rfl rfl rfl (Nat.le_of_ble_eq_true rfl) dX4_hashAfter_40 (Nat.le_of_ble_eq_true rfl) (Nat.le_of_ble_eq_true rfl)) [0, 1] [] rfl rfl (by decide) (by decide) rfl rfl (fun r_1 u_2 h_3 => ?_)
      have e_4 : r_1 = f_X4_valueAt_r 20 5 4 ho hf (nI i) 0 := h_3
      refine sw_eq (ws' := [(h0, .inr (4, [.int 5, .int 4, .ref c0, .int ho, .int hn])), (c0, .inl (G.2.1.2, 20, .inr (.inl hf)))]) (lv' := [(6, .int 0), (5, .int (nI i)), (3, .long x3), (0, .ref h0), (1, .long a)]) (st' := [.long r_1, .long x3]) rfl rfl rfl ?_
      refine sw_calll (pc := 43) (wr := [(h0, .inr (4, [.int 5, .int 4, .ref c0, .int ho, .int hn])), (c0, .inl (G.2.1.2, 20, .inr (.inl hf)))]) (k' := 0) (n' := 0) F (sw_runSN (R := ({ frames := 2, cells := 0, slots := 0, locals := 46 } : Room)) (na := 2) F T.2.1 T.2.2.1 (k_X9_hashed l G x3 r_1) [] rfl (by decide) gX4_hashAfter_X9_hashed_n36 rfl rfl rfl (List.mem_of_getElem? (i := 4) rfl) (List.mem_of_getElem? (i := 10) rfl) (List.mem_of_getElem? (i := 3) rfl) (by decide +kernel) ⟨Nat.le_of_ble_eq_true rfl, Nat.le_of_ble_eq_true rfl⟩ rfl rfl (Nat.le_of_ble_eq_true rfl) dX4_hashAfter_43 (Nat.le_of_ble_eq_true rfl) (Nat.le_of_ble_eq_true rfl)) [] [0, 1] rfl rfl (by decide) (by decide) rfl rfl (fun r_5 u_6 h_7 => ?_)
      have e_8 : r_5 = f_X9_hashed_r x3 r_1 := h_7
      refine sw_eq (ws' := [(h0, .inr (4, [.int 5, .int 4, .ref c0, .int ho, .int hn])), (c0, .inl (G.2.1.2, 20, .inr (.inl hf)))]) (lv' := [(6, .int 0), (5, .int (nI i)), (3, .long x3), (0, .ref h0), (1, .long a)]) (st' := [.long r_5]) rfl rfl rfl ?_
      refine sw_lstore_n (pc := 46) (lv' := [(3, .long r_5), (6, .int 0), (5, .int (nI i)), (0, .ref h0), (1, .long a)]) F T.1 dX4_hashAfter_46 rfl (by decide) rfl ?_
      refine sw_iinc (pc := 47) (v := 1) (lv' := [(6, .int 1), (3, .long r_5), (5, .int (nI i)), (0, .ref h0), (1, .long a)]) F T.1 dX4_hashAfter_47 (q := 1) rfl rfl (by decide) rfl ?_
      refine sw_goto (pc := 50) (tgt := 25) F dX4_hashAfter_50 (by decide) ?_
      refine sw_iload (pc := 25) F dX4_hashAfter_25 0 rfl ?_
      refine sw_aload_n (pc := 27) F dX4_hashAfter_27 rfl 3 rfl ?_
      refine sw_get (pc := 28) (Cn := RX4) (T := TX4) (N := 5) (ci := 4) (v := .int 4) F in4 0 rfl rfl 1 (by decide) rfl (List.mem_of_getElem? (i := 2) rfl) rfl dX4_hashAfter_28 ?_
      refine sw_icmp_ge (pc := 31) (tgt := 53) F dX4_hashAfter_31 (by decide) (fun c => absurd c (by decide)) (fun _ => ?_)
      refine sw_lload_n (pc := 34) F dX4_hashAfter_34 rfl 1 rfl ?_
      refine sw_aload_n (pc := 35) F dX4_hashAfter_35 rfl 3 rfl ?_
      refine sw_iload (pc := 36) F dX4_hashAfter_36 2 rfl ?_
      refine sw_iload (pc := 38) F dX4_hashAfter_38 0 rfl ?_
      refine sw_calll (pc := 40) (wr := []) (k' := 0) (n' := 0) F (sw_runV (R := ({ frames := 2, cells := 0, slots := 0, locals := 46 } : Room)) (q0 := 0) (na := 2) F T.2.1 T.2.2.1 (k_X4_valueAt l G h0 c0 20 5 4 ho hn hf (nI i) 1 (by decide)) [0, 1] rfl (by decide) gX4_hashAfter_X4_valueAt rfl rfl rfl (by decide +kernel) ⟨Nat.le_of_ble_eq_true rfl, Nat.le_of_ble_eq_true rfl⟩ rfl rfl rfl rfl rfl (Nat.le_of_ble_eq_true rfl) dX4_hashAfter_40 (Nat.le_of_ble_eq_true rfl) (Nat.le_of_ble_eq_true rfl)) [0, 1] [] rfl rfl (by decide) (by decide) rfl rfl (fun r_9 u_10 h_11 => ?_)
      have e_12 : r_9 = f_X4_valueAt_r 20 5 4 ho hf (nI i) 1 := h_11
      refine sw_eq (ws' := [(h0, .inr (4, [.int 5, .int 4, .ref c0, .int ho, .int hn])), (c0, .inl (G.2.1.2, 20, .inr (.inl hf)))]) (lv' := [(6, .int 1), (3, .long r_5), (5, .int (nI i)), (0, .ref h0), (1, .long a)]) (st' := [.long r_9, .long r_5]) rfl rfl rfl ?_
      refine sw_calll (pc := 43) (wr := [(h0, .inr (4, [.int 5, .int 4, .ref c0, .int ho, .int hn])), (c0, .inl (G.2.1.2, 20, .inr (.inl hf)))]) (k' := 0) (n' := 0) F (sw_runSN (R := ({ frames := 2, cells := 0, slots := 0, locals := 46 } : Room)) (na := 2) F T.2.1 T.2.2.1 (k_X9_hashed l G r_5 r_9) [] rfl (by decide) gX4_hashAfter_X9_hashed_n36 rfl rfl rfl (List.mem_of_getElem? (i := 4) rfl) (List.mem_of_getElem? (i := 10) rfl) (List.mem_of_getElem? (i := 3) rfl) (by decide +kernel) ⟨Nat.le_of_ble_eq_true rfl, Nat.le_of_ble_eq_true rfl⟩ rfl rfl (Nat.le_of_ble_eq_true rfl) dX4_hashAfter_43 (Nat.le_of_ble_eq_true rfl) (Nat.le_of_ble_eq_true rfl)) [] [0, 1] rfl rfl (by decide) (by decide) rfl rfl (fun r_13 u_14 h_15 => ?_)
      have e_16 : r_13 = f_X9_hashed_r r_5 r_9 := h_15
      refine sw_eq (ws' := [(h0, .inr (4, [.int 5, .int 4, .ref c0, .int ho, .int hn])), (c0, .inl (G.2.1.2, 20, .inr (.inl hf)))]) (lv' := [(6, .int 1), (3, .long r_5), (5, .int (nI i)), (0, .ref h0), (1, .long a)]) (st' := [.long r_13]) rfl rfl rfl ?_
      refine sw_lstore_n (pc := 46) (lv' := [(3, .long r_13), (6, .int 1), (5, .int (nI i)), (0, .ref h0), (1, .long a)]) F T.1 dX4_hashAfter_46 rfl (by decide) rfl ?_
      refine sw_iinc (pc := 47) (v := 2) (lv' := [(6, .int 2), (3, .long r_13), (5, .int (nI i)), (0, .ref h0), (1, .long a)]) F T.1 dX4_hashAfter_47 (q := 1) rfl rfl (by decide) rfl ?_
      refine sw_goto (pc := 50) (tgt := 25) F dX4_hashAfter_50 (by decide) ?_
      refine sw_iload (pc := 25) F dX4_hashAfter_25 0 rfl ?_
      refine sw_aload_n (pc := 27) F dX4_hashAfter_27 rfl 3 rfl ?_
      refine sw_get (pc := 28) (Cn := RX4) (T := TX4) (N := 5) (ci := 4) (v := .int 4) F in4 0 rfl rfl 1 (by decide) rfl (List.mem_of_getElem? (i := 2) rfl) rfl dX4_hashAfter_28 ?_
      refine sw_icmp_ge (pc := 31) (tgt := 53) F dX4_hashAfter_31 (by decide) (fun c => absurd c (by decide)) (fun _ => ?_)
      refine sw_lload_n (pc := 34) F dX4_hashAfter_34 rfl 1 rfl ?_
      refine sw_aload_n (pc := 35) F dX4_hashAfter_35 rfl 3 rfl ?_
      refine sw_iload (pc := 36) F dX4_hashAfter_36 2 rfl ?_
      refine sw_iload (pc := 38) F dX4_hashAfter_38 0 rfl ?_
      refine sw_calll (pc := 40) (wr := []) (k' := 0) (n' := 0) F (sw_runV (R := ({ frames := 2, cells := 0, slots := 0, locals := 46 } : Room)) (q0 := 0) (na := 2) F T.2.1 T.2.2.1 (k_X4_valueAt l G h0 c0 20 5 4 ho hn hf (nI i) 2 (by decide)) [0, 1] rfl (by decide) gX4_hashAfter_X4_valueAt rfl rfl rfl (by decide +kernel) ⟨Nat.le_of_ble_eq_true rfl, Nat.le_of_ble_eq_true rfl⟩ rfl rfl rfl rfl rfl (Nat.le_of_ble_eq_true rfl) dX4_hashAfter_40 (Nat.le_of_ble_eq_true rfl) (Nat.le_of_ble_eq_true rfl)) [0, 1] [] rfl rfl (by decide) (by decide) rfl rfl (fun r_17 u_18 h_19 => ?_)
      have e_20 : r_17 = f_X4_valueAt_r 20 5 4 ho hf (nI i) 2 := h_19
      refine sw_eq (ws' := [(h0, .inr (4, [.int 5, .int 4, .ref c0, .int ho, .int hn])), (c0, .inl (G.2.1.2, 20, .inr (.inl hf)))]) (lv' := [(6, .int 2), (3, .long r_13), (5, .int (nI i)), (0, .ref h0), (1, .long a)]) (st' := [.long r_17, .long r_13]) rfl rfl rfl ?_
      refine sw_calll (pc := 43) (wr := [(h0, .inr (4, [.int 5, .int 4, .ref c0, .int ho, .int hn])), (c0, .inl (G.2.1.2, 20, .inr (.inl hf)))]) (k' := 0) (n' := 0) F (sw_runSN (R := ({ frames := 2, cells := 0, slots := 0, locals := 46 } : Room)) (na := 2) F T.2.1 T.2.2.1 (k_X9_hashed l G r_13 r_17) [] rfl (by decide) gX4_hashAfter_X9_hashed_n36 rfl rfl rfl (List.mem_of_getElem? (i := 4) rfl) (List.mem_of_getElem? (i := 10) rfl) (List.mem_of_getElem? (i := 3) rfl) (by decide +kernel) ⟨Nat.le_of_ble_eq_true rfl, Nat.le_of_ble_eq_true rfl⟩ rfl rfl (Nat.le_of_ble_eq_true rfl) dX4_hashAfter_43 (Nat.le_of_ble_eq_true rfl) (Nat.le_of_ble_eq_true rfl)) [] [0, 1] rfl rfl (by decide) (by decide) rfl rfl (fun r_21 u_22 h_23 => ?_)
      have e_24 : r_21 = f_X9_hashed_r r_13 r_17 := h_23
      refine sw_eq (ws' := [(h0, .inr (4, [.int 5, .int 4, .ref c0, .int ho, .int hn])), (c0, .inl (G.2.1.2, 20, .inr (.inl hf)))]) (lv' := [(6, .int 2), (3, .long r_13), (5, .int (nI i)), (0, .ref h0), (1, .long a)]) (st' := [.long r_21]) rfl rfl rfl ?_
      refine sw_lstore_n (pc := 46) (lv' := [(3, .long r_21), (6, .int 2), (5, .int (nI i)), (0, .ref h0), (1, .long a)]) F T.1 dX4_hashAfter_46 rfl (by decide) rfl ?_
      refine sw_iinc (pc := 47) (v := 3) (lv' := [(6, .int 3), (3, .long r_21), (5, .int (nI i)), (0, .ref h0), (1, .long a)]) F T.1 dX4_hashAfter_47 (q := 1) rfl rfl (by decide) rfl ?_
      refine sw_goto (pc := 50) (tgt := 25) F dX4_hashAfter_50 (by decide) ?_
      refine sw_iload (pc := 25) F dX4_hashAfter_25 0 rfl ?_
      refine sw_aload_n (pc := 27) F dX4_hashAfter_27 rfl 3 rfl ?_
      refine sw_get (pc := 28) (Cn := RX4) (T := TX4) (N := 5) (ci := 4) (v := .int 4) F in4 0 rfl rfl 1 (by decide) rfl (List.mem_of_getElem? (i := 2) rfl) rfl dX4_hashAfter_28 ?_
      refine sw_icmp_ge (pc := 31) (tgt := 53) F dX4_hashAfter_31 (by decide) (fun c => absurd c (by decide)) (fun _ => ?_)
      refine sw_lload_n (pc := 34) F dX4_hashAfter_34 rfl 1 rfl ?_
      refine sw_aload_n (pc := 35) F dX4_hashAfter_35 rfl 3 rfl ?_
      refine sw_iload (pc := 36) F dX4_hashAfter_36 2 rfl ?_
      refine sw_iload (pc := 38) F dX4_hashAfter_38 0 rfl ?_
      refine sw_calll (pc := 40) (wr := []) (k' := 0) (n' := 0) F (sw_runV (R := ({ frames := 2, cells := 0, slots := 0, locals := 46 } : Room)) (q0 := 0) (na := 2) F T.2.1 T.2.2.1 (k_X4_valueAt l G h0 c0 20 5 4 ho hn hf (nI i) 3 (by decide)) [0, 1] rfl (by decide) gX4_hashAfter_X4_valueAt rfl rfl rfl (by decide +kernel) ⟨Nat.le_of_ble_eq_true rfl, Nat.le_of_ble_eq_true rfl⟩ rfl rfl rfl rfl rfl (Nat.le_of_ble_eq_true rfl) dX4_hashAfter_40 (Nat.le_of_ble_eq_true rfl) (Nat.le_of_ble_eq_true rfl)) [0, 1] [] rfl rfl (by decide) (by decide) rfl rfl (fun r_25 u_26 h_27 => ?_)
      have e_28 : r_25 = f_X4_valueAt_r 20 5 4 ho hf (nI i) 3 := h_27
      refine sw_eq (ws' := [(h0, .inr (4, [.int 5, .int 4, .ref c0, .int ho, .int hn])), (c0, .inl (G.2.1.2, 20, .inr (.inl hf)))]) (lv' := [(6, .int 3), (3, .long r_21), (5, .int (nI i)), (0, .ref h0), (1, .long a)]) (st' := [.long r_25, .long r_21]) rfl rfl rfl ?_
      refine sw_calll (pc := 43) (wr := [(h0, .inr (4, [.int 5, .int 4, .ref c0, .int ho, .int hn])), (c0, .inl (G.2.1.2, 20, .inr (.inl hf)))]) (k' := 0) (n' := 0) F (sw_runSN (R := ({ frames := 2, cells := 0, slots := 0, locals := 46 } : Room)) (na := 2) F T.2.1 T.2.2.1 (k_X9_hashed l G r_21 r_25) [] rfl (by decide) gX4_hashAfter_X9_hashed_n36 rfl rfl rfl (List.mem_of_getElem? (i := 4) rfl) (List.mem_of_getElem? (i := 10) rfl) (List.mem_of_getElem? (i := 3) rfl) (by decide +kernel) ⟨Nat.le_of_ble_eq_true rfl, Nat.le_of_ble_eq_true rfl⟩ rfl rfl (Nat.le_of_ble_eq_true rfl) dX4_hashAfter_43 (Nat.le_of_ble_eq_true rfl) (Nat.le_of_ble_eq_true rfl)) [] [0, 1] rfl rfl (by decide) (by decide) rfl rfl (fun r_29 u_30 h_31 => ?_)
      have e_32 : r_29 = f_X9_hashed_r r_21 r_25 := h_31
      refine sw_eq (ws' := [(h0, .inr (4, [.int 5, .int 4, .ref c0, .int ho, .int hn])), (c0, .inl (G.2.1.2, 20, .inr (.inl hf)))]) (lv' := [(6, .int 3), (3, .long r_21), (5, .int (nI i)), (0, .ref h0), (1, .long a)]) (st' := [.long r_29]) rfl rfl rfl ?_
      refine sw_lstore_n (pc := 46) (lv' := [(3, .long r_29), (6, .int 3), (5, .int (nI i)), (0, .ref h0), (1, .long a)]) F T.1 dX4_hashAfter_46 rfl (by decide) rfl ?_
      refine sw_iinc (pc := 47) (v := 4) (lv' := [(6, .int 4), (3, .long r_29), (5, .int (nI i)), (0, .ref h0), (1, .long a)]) F T.1 dX4_hashAfter_47 (q := 1) rfl rfl (by decide) rfl ?_
      refine sw_goto (pc := 50) (tgt := 25) F dX4_hashAfter_50 (by decide) ?_
      refine sw_iload (pc := 25) F dX4_hashAfter_25 0 rfl ?_
      refine sw_aload_n (pc := 27) F dX4_hashAfter_27 rfl 3 rfl ?_
      refine sw_get (pc := 28) (Cn := RX4) (T := TX4) (N := 5) (ci := 4) (v := .int 4) F in4 0 rfl rfl 1 (by decide) rfl (List.mem_of_getElem? (i := 2) rfl) rfl dX4_hashAfter_28 ?_
      refine sw_icmp_ge (pc := 31) (tgt := 53) F dX4_hashAfter_31 (by decide) (fun _ => ?_) (fun c => absurd c (by decide))
      obtain ⟨x_33, ex_33⟩ : ∃ y : Int32, y = (nI i) + 1 := ⟨_, rfl⟩
      refine sw_iinc (pc := 53) (v := x_33) (lv' := [(5, .int x_33), (6, .int 4), (3, .long r_29), (0, .ref h0), (1, .long a)]) F T.1 dX4_hashAfter_53 (q := 2) rfl ex_33.symm (by decide) rfl ?_
      refine sw_goto (pc := 56) (tgt := 13) F dX4_hashAfter_56 (by decide) ?_
      refine sw_lvs (is := [0, 2, 3, 4]) (lv' := [(5, .int x_33), (3, .long r_29), (0, .ref h0), (1, .long a)]) rfl ?_
      subst ex_33
      subst e_32
      subst e_28
      subst e_24
      subst e_20
      subst e_16
      subst e_12
      subst e_8
      subst e_4
      refine sw_eq (lv' := [(5, .int (nI (i + 1))), (3, .long _), (0, .ref h0), (1, .long a)]) rfl (by rw [nI_1]) rfl ?_
      exact ih (i + 1) (by omega) _ (by rw [hx]; rfl)
  refine sw_lload_n (pc := 0) F dX4_hashAfter_0 rfl 1 rfl ?_
  refine sw_aload_n (pc := 1) F dX4_hashAfter_1 rfl 0 rfl ?_
  refine sw_get (pc := 2) (Cn := RX4) (T := TX4) (N := 5) (ci := 4) (v := .int hn) F in4 0 rfl rfl 4 (by decide) rfl (List.mem_of_getElem? (i := 1) rfl) rfl dX4_hashAfter_2 ?_
  refine sw_i2l (pc := 5) F dX4_hashAfter_5 rfl ?_
  refine sw_calll (pc := 6) (wr := [(h0, .inr (4, [.int 5, .int 4, .ref c0, .int ho, .int hn])), (c0, .inl (G.2.1.2, 20, .inr (.inl hf)))]) (k' := 0) (n' := 0) F (sw_runSN (R := ({ frames := 2, cells := 0, slots := 0, locals := 46 } : Room)) (na := 2) F T.2.1 T.2.2.1 (k_X9_hashed l G a hn.toInt64) [] rfl (by decide) gX4_hashAfter_X9_hashed_n36 rfl rfl rfl (List.mem_of_getElem? (i := 4) rfl) (List.mem_of_getElem? (i := 10) rfl) (List.mem_of_getElem? (i := 3) rfl) (by decide +kernel) ⟨Nat.le_of_ble_eq_true rfl, Nat.le_of_ble_eq_true rfl⟩ rfl rfl (Nat.le_of_ble_eq_true rfl) dX4_hashAfter_6 (Nat.le_of_ble_eq_true rfl) (Nat.le_of_ble_eq_true rfl)) [] [0, 1] rfl rfl (by decide) (by decide) rfl rfl (fun r_34 u_35 h_36 => ?_)
  have e_37 : r_34 = f_X9_hashed_r a hn.toInt64 := h_36
  refine sw_eq (ws' := [(h0, .inr (4, [.int 5, .int 4, .ref c0, .int ho, .int hn])), (c0, .inl (G.2.1.2, 20, .inr (.inl hf)))]) (lv' := [(0, .ref h0), (1, .long a)]) (st' := [.long r_34]) rfl rfl rfl ?_
  refine sw_lstore_n (pc := 9) (lv' := [(3, .long r_34), (0, .ref h0), (1, .long a)]) F T.1 dX4_hashAfter_9 rfl (by decide) rfl ?_
  refine sw_iconst (pc := 10) (v := 0) F dX4_hashAfter_10 rfl ?_
  refine sw_istore (pc := 11) (lv' := [(5, .int 0), (3, .long r_34), (0, .ref h0), (1, .long a)]) F T.1 dX4_hashAfter_11 (by decide) rfl ?_
  refine sw_lvs (is := [0, 1, 2, 3]) (lv' := [(5, .int 0), (3, .long r_34), (0, .ref h0), (1, .long a)]) rfl ?_
  subst e_37
  exact loop N 0 (by omega) _ rfl
set_option maxHeartbeats 4000000 in
set_option maxRecDepth 100000 in
theorem k_X4_hashAfter_90 (l : Launch) (G : sw_E) (h0 : Nat) (c0 : Nat) (ho : Int32) (hn : Int32) (hf : Nat → Int64) (a : Int64) (hn0 : 0 ≤ hn.toInt) : sw_M l G yX4_hashAfter wsX4_hashAfter ({ frames := 2, cells := 0, slots := 0, locals := 46 } : Room) [.ref h0, .long a] [(h0, .inr (4, [.int 30, .int 3, .ref c0, .int ho, .int hn])), (c0, .inl (G.2.1.2, 90, .inr (.inl hf)))] (sw_QL G (S := Unit) (fun (r : Int64) (u : Unit) => r = hr_out (fun i j => f_X4_valueAt_r 90 30 3 ho hf (nI i) (nI j)) 3 (f_X9_hashed_r a hn.toInt64) hn.toNatClampNeg) (fun u => [(h0, .inr (4, [.int 30, .int 3, .ref c0, .int ho, .int hn])), (c0, .inl (G.2.1.2, 90, .inr (.inl hf)))])) 0 0 := by
  refine sw_start (cc := cX4_hashAfter) (maxL := 7) (ret := some .long) (lv := [(0, .ref h0), (1, .long a)]) (own := RX4) (nm := "hashAfter") (by decide +kernel) rfl rfl rfl rfl (Nat.le_of_ble_eq_true rfl) (fun C F T => ?_)
  have in4 : ∀ w ∈ u_ws RX4 TX4 5, w ∈ wsX4_hashAfter := fun w h => List.mem_cons_of_mem _ (List.mem_append_right _ (h))
  have hm : hn = nI hn.toNatClampNeg := (nI_back hn0).symm
  have hm2 := nI_lt31 hn
  generalize hN : hn.toNatClampNeg = N at hm hm2 T
  have loop : ∀ (m i : Nat), i + m = N → ∀ (x3 : Int64), x3 = hr_out (fun i j => f_X4_valueAt_r 90 30 3 ho hf (nI i) (nI j)) 3 (f_X9_hashed_r a hn.toInt64) i → SW G C 0 0 [(h0, .inr (4, [.int 30, .int 3, .ref c0, .int ho, .int hn])), (c0, .inl (G.2.1.2, 90, .inr (.inl hf)))] [(5, .int (nI i)), (3, .long x3), (0, .ref h0), (1, .long a)] 13 [] := by
    intro m
    induction m with
    | zero =>
      intro i hi x3 hx
      refine sw_iload (pc := 13) F dX4_hashAfter_13 0 rfl ?_
      refine sw_aload_n (pc := 15) F dX4_hashAfter_15 rfl 2 rfl ?_
      refine sw_get (pc := 16) (Cn := RX4) (T := TX4) (N := 5) (ci := 4) (v := .int hn) F in4 0 rfl rfl 4 (by decide) rfl (List.mem_of_getElem? (i := 1) rfl) rfl dX4_hashAfter_16 ?_
      refine sw_icmp_ge (pc := 19) (tgt := 59) F dX4_hashAfter_19 (by decide) (fun _ => ?_) (fun c => absurd (by rw [hm, show i = N by omega]; exact nI_le (Nat.le_refl N) hm2) c)
      refine sw_lload_n (pc := 59) F dX4_hashAfter_59 rfl 1 rfl ?_
      exact sw_lret (pc := 60) F T () (by rw [hx, show i = N by omega]) rfl dX4_hashAfter_60
    | succ m ih =>
      intro i hi x3 hx
      refine sw_iload (pc := 13) F dX4_hashAfter_13 0 rfl ?_
      refine sw_aload_n (pc := 15) F dX4_hashAfter_15 rfl 2 rfl ?_
      refine sw_get (pc := 16) (Cn := RX4) (T := TX4) (N := 5) (ci := 4) (v := .int hn) F in4 0 rfl rfl 4 (by decide) rfl (List.mem_of_getElem? (i := 1) rfl) rfl dX4_hashAfter_16 ?_
      refine sw_icmp_ge (pc := 19) (tgt := 59) F dX4_hashAfter_19 (by decide) (fun c => absurd c (by rw [hm]; exact nI_ge (by omega) hm2)) (fun _ => ?_)
      refine sw_iconst (pc := 22) (v := 0) F dX4_hashAfter_22 rfl ?_
      refine sw_istore (pc := 23) (lv' := [(6, .int 0), (5, .int (nI i)), (3, .long x3), (0, .ref h0), (1, .long a)]) F T.1 dX4_hashAfter_23 (by decide) rfl ?_
      refine sw_iload (pc := 25) F dX4_hashAfter_25 0 rfl ?_
      refine sw_aload_n (pc := 27) F dX4_hashAfter_27 rfl 3 rfl ?_
      refine sw_get (pc := 28) (Cn := RX4) (T := TX4) (N := 5) (ci := 4) (v := .int 3) F in4 0 rfl rfl 1 (by decide) rfl (List.mem_of_getElem? (i := 2) rfl) rfl dX4_hashAfter_28 ?_
      refine sw_icmp_ge (pc := 31) (tgt := 53) F dX4_hashAfter_31 (by decide) (fun c => absurd c (by decide)) (fun _ => ?_)
      refine sw_lload_n (pc := 34) F dX4_hashAfter_34 rfl 2 rfl ?_
      refine sw_aload_n (pc := 35) F dX4_hashAfter_35 rfl 3 rfl ?_
      refine sw_iload (pc := 36) F dX4_hashAfter_36 1 rfl ?_
      refine sw_iload (pc := 38) F dX4_hashAfter_38 0 rfl ?_
      refine sw_calll (pc := 40) (wr := []) (k' := 0) (n' := 0) F (sw_runV (R := ({ frames := 2, cells := 0, slots := 0, locals := 46 } : Room)) (q0 := 0) (na := 2) F T.2.1 T.2.2.1 (k_X4_valueAt l G h0 c0 90 30 3 ho hn hf (nI i) 0 (by decide)) [0, 1] rfl (by decide) gX4_hashAfter_X4_valueAt rfl rfl rfl (by decide +kernel) ⟨Nat.le_of_ble_eq_true rfl, Nat.le_of_ble_eq_true rfl⟩ rfl rfl rfl rfl rfl (Nat.le_of_ble_eq_true rfl) dX4_hashAfter_40 (Nat.le_of_ble_eq_true rfl) (Nat.le_of_ble_eq_true rfl)) [0, 1] [] rfl rfl (by decide) (by decide) rfl rfl (fun r_1 u_2 h_3 => ?_)
      have e_4 : r_1 = f_X4_valueAt_r 90 30 3 ho hf (nI i) 0 := h_3
      refine sw_eq (ws' := [(h0, .inr (4, [.int 30, .int 3, .ref c0, .int ho, .int hn])), (c0, .inl (G.2.1.2, 90, .inr (.inl hf)))]) (lv' := [(6, .int 0), (5, .int (nI i)), (3, .long x3), (0, .ref h0), (1, .long a)]) (st' := [.long r_1, .long x3]) rfl rfl rfl ?_
      refine sw_calll (pc := 43) (wr := [(h0, .inr (4, [.int 30, .int 3, .ref c0, .int ho, .int hn])), (c0, .inl (G.2.1.2, 90, .inr (.inl hf)))]) (k' := 0) (n' := 0) F (sw_runSN (R := ({ frames := 2, cells := 0, slots := 0, locals := 46 } : Room)) (na := 2) F T.2.1 T.2.2.1 (k_X9_hashed l G x3 r_1) [] rfl (by decide) gX4_hashAfter_X9_hashed_n36 rfl rfl rfl (List.mem_of_getElem? (i := 4) rfl) (List.mem_of_getElem? (i := 10) rfl) (List.mem_of_getElem? (i := 3) rfl) (by decide +kernel) ⟨Nat.le_of_ble_eq_true rfl, Nat.le_of_ble_eq_true rfl⟩ rfl rfl (Nat.le_of_ble_eq_true rfl) dX4_hashAfter_43 (Nat.le_of_ble_eq_true rfl) (Nat.le_of_ble_eq_true rfl)) [] [0, 1] rfl rfl (by decide) (by decide) rfl rfl (fun r_5 u_6 h_7 => ?_)
      have e_8 : r_5 = f_X9_hashed_r x3 r_1 := h_7
      refine sw_eq (ws' := [(h0, .inr (4, [.int 30, .int 3, .ref c0, .int ho, .int hn])), (c0, .inl (G.2.1.2, 90, .inr (.inl hf)))]) (lv' := [(6, .int 0), (5, .int (nI i)), (3, .long x3), (0, .ref h0), (1, .long a)]) (st' := [.long r_5]) rfl rfl rfl ?_
      refine sw_lstore_n (pc := 46) (lv' := [(3, .long r_5), (6, .int 0), (5, .int (nI i)), (0, .ref h0), (1, .long a)]) F T.1 dX4_hashAfter_46 rfl (by decide) rfl ?_
      refine sw_iinc (pc := 47) (v := 1) (lv' := [(6, .int 1), (3, .long r_5), (5, .int (nI i)), (0, .ref h0), (1, .long a)]) F T.1 dX4_hashAfter_47 (q := 1) rfl rfl (by decide) rfl ?_
      refine sw_goto (pc := 50) (tgt := 25) F dX4_hashAfter_50 (by decide) ?_
      refine sw_iload (pc := 25) F dX4_hashAfter_25 0 rfl ?_
      refine sw_aload_n (pc := 27) F dX4_hashAfter_27 rfl 3 rfl ?_
      refine sw_get (pc := 28) (Cn := RX4) (T := TX4) (N := 5) (ci := 4) (v := .int 3) F in4 0 rfl rfl 1 (by decide) rfl (List.mem_of_getElem? (i := 2) rfl) rfl dX4_hashAfter_28 ?_
      refine sw_icmp_ge (pc := 31) (tgt := 53) F dX4_hashAfter_31 (by decide) (fun c => absurd c (by decide)) (fun _ => ?_)
      refine sw_lload_n (pc := 34) F dX4_hashAfter_34 rfl 1 rfl ?_
      refine sw_aload_n (pc := 35) F dX4_hashAfter_35 rfl 3 rfl ?_
      refine sw_iload (pc := 36) F dX4_hashAfter_36 2 rfl ?_
      refine sw_iload (pc := 38) F dX4_hashAfter_38 0 rfl ?_
      refine sw_calll (pc := 40) (wr := []) (k' := 0) (n' := 0) F (sw_runV (R := ({ frames := 2, cells := 0, slots := 0, locals := 46 } : Room)) (q0 := 0) (na := 2) F T.2.1 T.2.2.1 (k_X4_valueAt l G h0 c0 90 30 3 ho hn hf (nI i) 1 (by decide)) [0, 1] rfl (by decide) gX4_hashAfter_X4_valueAt rfl rfl rfl (by decide +kernel) ⟨Nat.le_of_ble_eq_true rfl, Nat.le_of_ble_eq_true rfl⟩ rfl rfl rfl rfl rfl (Nat.le_of_ble_eq_true rfl) dX4_hashAfter_40 (Nat.le_of_ble_eq_true rfl) (Nat.le_of_ble_eq_true rfl)) [0, 1] [] rfl rfl (by decide) (by decide) rfl rfl (fun r_9 u_10 h_11 => ?_)
      have e_12 : r_9 = f_X4_valueAt_r 90 30 3 ho hf (nI i) 1 := h_11
      refine sw_eq (ws' := [(h0, .inr (4, [.int 30, .int 3, .ref c0, .int ho, .int hn])), (c0, .inl (G.2.1.2, 90, .inr (.inl hf)))]) (lv' := [(6, .int 1), (3, .long r_5), (5, .int (nI i)), (0, .ref h0), (1, .long a)]) (st' := [.long r_9, .long r_5]) rfl rfl rfl ?_
      refine sw_calll (pc := 43) (wr := [(h0, .inr (4, [.int 30, .int 3, .ref c0, .int ho, .int hn])), (c0, .inl (G.2.1.2, 90, .inr (.inl hf)))]) (k' := 0) (n' := 0) F (sw_runSN (R := ({ frames := 2, cells := 0, slots := 0, locals := 46 } : Room)) (na := 2) F T.2.1 T.2.2.1 (k_X9_hashed l G r_5 r_9) [] rfl (by decide) gX4_hashAfter_X9_hashed_n36 rfl rfl rfl (List.mem_of_getElem? (i := 4) rfl) (List.mem_of_getElem? (i := 10) rfl) (List.mem_of_getElem? (i := 3) rfl) (by decide +kernel) ⟨Nat.le_of_ble_eq_true rfl, Nat.le_of_ble_eq_true rfl⟩ rfl rfl (Nat.le_of_ble_eq_true rfl) dX4_hashAfter_43 (Nat.le_of_ble_eq_true rfl) (Nat.le_of_ble_eq_true rfl)) [] [0, 1] rfl rfl (by decide) (by decide) rfl rfl (fun r_13 u_14 h_15 => ?_)
      have e_16 : r_13 = f_X9_hashed_r r_5 r_9 := h_15
      refine sw_eq (ws' := [(h0, .inr (4, [.int 30, .int 3, .ref c0, .int ho, .int hn])), (c0, .inl (G.2.1.2, 90, .inr (.inl hf)))]) (lv' := [(6, .int 1), (3, .long r_5), (5, .int (nI i)), (0, .ref h0), (1, .long a)]) (st' := [.long r_13]) rfl rfl rfl ?_
      refine sw_lstore_n (pc := 46) (lv' := [(3, .long r_13), (6, .int 1), (5, .int (nI i)), (0, .ref h0), (1, .long a)]) F T.1 dX4_hashAfter_46 rfl (by decide) rfl ?_
      refine sw_iinc (pc := 47) (v := 2) (lv' := [(6, .int 2), (3, .long r_13), (5, .int (nI i)), (0, .ref h0), (1, .long a)]) F T.1 dX4_hashAfter_47 (q := 1) rfl rfl (by decide) rfl ?_
      refine sw_goto (pc := 50) (tgt := 25) F dX4_hashAfter_50 (by decide) ?_
      refine sw_iload (pc := 25) F dX4_hashAfter_25 0 rfl ?_
      refine sw_aload_n (pc := 27) F dX4_hashAfter_27 rfl 3 rfl ?_
      refine sw_get (pc := 28) (Cn := RX4) (T := TX4) (N := 5) (ci := 4) (v := .int 3) F in4 0 rfl rfl 1 (by decide) rfl (List.mem_of_getElem? (i := 2) rfl) rfl dX4_hashAfter_28 ?_
      refine sw_icmp_ge (pc := 31) (tgt := 53) F dX4_hashAfter_31 (by decide) (fun c => absurd c (by decide)) (fun _ => ?_)
      refine sw_lload_n (pc := 34) F dX4_hashAfter_34 rfl 1 rfl ?_
      refine sw_aload_n (pc := 35) F dX4_hashAfter_35 rfl 3 rfl ?_
      refine sw_iload (pc := 36) F dX4_hashAfter_36 2 rfl ?_
      refine sw_iload (pc := 38) F dX4_hashAfter_38 0 rfl ?_
      refine sw_calll (pc := 40) (wr := []) (k' := 0) (n' := 0) F (sw_runV (R := ({ frames := 2, cells := 0, slots := 0, locals := 46 } : Room)) (q0 := 0) (na := 2) F T.2.1 T.2.2.1 (k_X4_valueAt l G h0 c0 90 30 3 ho hn hf (nI i) 2 (by decide)) [0, 1] rfl (by decide) gX4_hashAfter_X4_valueAt rfl rfl rfl (by decide +kernel) ⟨Nat.le_of_ble_eq_true rfl, Nat.le_of_ble_eq_true rfl⟩ rfl rfl rfl rfl rfl (Nat.le_of_ble_eq_true rfl) dX4_hashAfter_40 (Nat.le_of_ble_eq_true rfl) (Nat.le_of_ble_eq_true rfl)) [0, 1] [] rfl rfl (by decide) (by decide) rfl rfl (fun r_17 u_18 h_19 => ?_)
      have e_20 : r_17 = f_X4_valueAt_r 90 30 3 ho hf (nI i) 2 := h_19
      refine sw_eq (ws' := [(h0, .inr (4, [.int 30, .int 3, .ref c0, .int ho, .int hn])), (c0, .inl (G.2.1.2, 90, .inr (.inl hf)))]) (lv' := [(6, .int 2), (3, .long r_13), (5, .int (nI i)), (0, .ref h0), (1, .long a)]) (st' := [.long r_17, .long r_13]) rfl rfl rfl ?_
      refine sw_calll (pc := 43) (wr := [(h0, .inr (4, [.int 30, .int 3, .ref c0, .int ho, .int hn])), (c0, .inl (G.2.1.2, 90, .inr (.inl hf)))]) (k' := 0) (n' := 0) F (sw_runSN (R := ({ frames := 2, cells := 0, slots := 0, locals := 46 } : Room)) (na := 2) F T.2.1 T.2.2.1 (k_X9_hashed l G r_13 r_17) [] rfl (by decide) gX4_hashAfter_X9_hashed_n36 rfl rfl rfl (List.mem_of_getElem? (i := 4) rfl) (List.mem_of_getElem? (i := 10) rfl) (List.mem_of_getElem? (i := 3) rfl) (by decide +kernel) ⟨Nat.le_of_ble_eq_true rfl, Nat.le_of_ble_eq_true rfl⟩ rfl rfl (Nat.le_of_ble_eq_true rfl) dX4_hashAfter_43 (Nat.le_of_ble_eq_true rfl) (Nat.le_of_ble_eq_true rfl)) [] [0, 1] rfl rfl (by decide) (by decide) rfl rfl (fun r_21 u_22 h_23 => ?_)
      have e_24 : r_21 = f_X9_hashed_r r_13 r_17 := h_23
      refine sw_eq (ws' := [(h0, .inr (4, [.int 30, .int 3, .ref c0, .int ho, .int hn])), (c0, .inl (G.2.1.2, 90, .inr (.inl hf)))]) (lv' := [(6, .int 2), (3, .long r_13), (5, .int (nI i)), (0, .ref h0), (1, .long a)]) (st' := [.long r_21]) rfl rfl rfl ?_
      refine sw_lstore_n (pc := 46) (lv' := [(3, .long r_21), (6, .int 2), (5, .int (nI i)), (0, .ref h0), (1, .long a)]) F T.1 dX4_hashAfter_46 rfl (by decide) rfl ?_
      refine sw_iinc (pc := 47) (v := 3) (lv' := [(6, .int 3), (3, .long r_21), (5, .int (nI i)), (0, .ref h0), (1, .long a)]) F T.1 dX4_hashAfter_47 (q := 1) rfl rfl (by decide) rfl ?_
      refine sw_goto (pc := 50) (tgt := 25) F dX4_hashAfter_50 (by decide) ?_
      refine sw_iload (pc := 25) F dX4_hashAfter_25 0 rfl ?_
      refine sw_aload_n (pc := 27) F dX4_hashAfter_27 rfl 3 rfl ?_
      refine sw_get (pc := 28) (Cn := RX4) (T := TX4) (N := 5) (ci := 4) (v := .int 3) F in4 0 rfl rfl 1 (by decide) rfl (List.mem_of_getElem? (i := 2) rfl) rfl dX4_hashAfter_28 ?_
      refine sw_icmp_ge (pc := 31) (tgt := 53) F dX4_hashAfter_31 (by decide) (fun _ => ?_) (fun c => absurd c (by decide))
      obtain ⟨x_25, ex_25⟩ : ∃ y : Int32, y = (nI i) + 1 := ⟨_, rfl⟩
      refine sw_iinc (pc := 53) (v := x_25) (lv' := [(5, .int x_25), (6, .int 3), (3, .long r_21), (0, .ref h0), (1, .long a)]) F T.1 dX4_hashAfter_53 (q := 2) rfl ex_25.symm (by decide) rfl ?_
      refine sw_goto (pc := 56) (tgt := 13) F dX4_hashAfter_56 (by decide) ?_
      refine sw_lvs (is := [0, 2, 3, 4]) (lv' := [(5, .int x_25), (3, .long r_21), (0, .ref h0), (1, .long a)]) rfl ?_
      subst ex_25
      subst e_24
      subst e_20
      subst e_16
      subst e_12
      subst e_8
      subst e_4
      refine sw_eq (lv' := [(5, .int (nI (i + 1))), (3, .long _), (0, .ref h0), (1, .long a)]) rfl (by rw [nI_1]) rfl ?_
      exact ih (i + 1) (by omega) _ (by rw [hx]; rfl)
  refine sw_lload_n (pc := 0) F dX4_hashAfter_0 rfl 1 rfl ?_
  refine sw_aload_n (pc := 1) F dX4_hashAfter_1 rfl 0 rfl ?_
  refine sw_get (pc := 2) (Cn := RX4) (T := TX4) (N := 5) (ci := 4) (v := .int hn) F in4 0 rfl rfl 4 (by decide) rfl (List.mem_of_getElem? (i := 1) rfl) rfl dX4_hashAfter_2 ?_
  refine sw_i2l (pc := 5) F dX4_hashAfter_5 rfl ?_
  refine sw_calll (pc := 6) (wr := [(h0, .inr (4, [.int 30, .int 3, .ref c0, .int ho, .int hn])), (c0, .inl (G.2.1.2, 90, .inr (.inl hf)))]) (k' := 0) (n' := 0) F (sw_runSN (R := ({ frames := 2, cells := 0, slots := 0, locals := 46 } : Room)) (na := 2) F T.2.1 T.2.2.1 (k_X9_hashed l G a hn.toInt64) [] rfl (by decide) gX4_hashAfter_X9_hashed_n36 rfl rfl rfl (List.mem_of_getElem? (i := 4) rfl) (List.mem_of_getElem? (i := 10) rfl) (List.mem_of_getElem? (i := 3) rfl) (by decide +kernel) ⟨Nat.le_of_ble_eq_true rfl, Nat.le_of_ble_eq_true rfl⟩ rfl rfl (Nat.le_of_ble_eq_true rfl) dX4_hashAfter_6 (Nat.le_of_ble_eq_true rfl) (Nat.le_of_ble_eq_true rfl)) [] [0, 1] rfl rfl (by decide) (by decide) rfl rfl (fun r_26 u_27 h_28 => ?_)
  have e_29 : r_26 = f_X9_hashed_r a hn.toInt64 := h_28
  refine sw_eq (ws' := [(h0, .inr (4, [.int 30, .int 3, .ref c0, .int ho, .int hn])), (c0, .inl (G.2.1.2, 90, .inr (.inl hf)))]) (lv' := [(0, .ref h0), (1, .long a)]) (st' := [.long r_26]) rfl rfl rfl ?_
  refine sw_lstore_n (pc := 9) (lv' := [(3, .long r_26), (0, .ref h0), (1, .long a)]) F T.1 dX4_hashAfter_9 rfl (by decide) rfl ?_
  refine sw_iconst (pc := 10) (v := 0) F dX4_hashAfter_10 rfl ?_
  refine sw_istore (pc := 11) (lv' := [(5, .int 0), (3, .long r_26), (0, .ref h0), (1, .long a)]) F T.1 dX4_hashAfter_11 (by decide) rfl ?_
  refine sw_lvs (is := [0, 1, 2, 3]) (lv' := [(5, .int 0), (3, .long r_26), (0, .ref h0), (1, .long a)]) rfl ?_
  subst e_29
  exact loop N 0 (by omega) _ rfl
noncomputable def f_X3_flowAt_r (pm : Int32) (pk : Int32) (pf : Nat → Int32) (a : Int32) (b : Int32) (dn : Int64) : Int64 := if pm = 1 then ((f_J9_floorDiv_f86c9_r ((f_J9_floorDiv_f86c9_r ((f_J9_floorDiv_f86c9_r (pk.toInt64 * (isq ((100 * a.toInt64) * dn))) 10000) * (f_X3_expansion_r a b).toInt64) 1000) * (f_X3_interpolated_F_r pf (f_J9_floorDiv_f86c9_r ((f_J9_floorDiv_f86c9_r (pk.toInt64 * (isq ((100 * a.toInt64) * dn))) 10000) * (f_X3_expansion_r a b).toInt64) 1000))) 10000)) else ((f_J9_floorDiv_f86c9_r ((f_J9_floorDiv_f86c9_r (pk.toInt64 * (isq ((100 * a.toInt64) * dn))) 10000) * (f_X3_interpolated_F_r pf (f_J9_floorDiv_f86c9_r (pk.toInt64 * (isq ((100 * a.toInt64) * dn))) 10000))) 10000))
set_option maxHeartbeats 4000000 in
set_option maxRecDepth 100000 in
theorem k_X3_flowAt (l : Launch) (G : sw_E) (h0 : Nat) (d0 : Nat) (f0 : Nat) (pm : Int32) (pk : Int32) (pd : Nat → Int32) (pf : Nat → Int32) (a : Int32) (b : Int32) (dn : Int64) (hs0 : 0 ≤ ((100 * a.toInt64) * dn).toInt) (hs1 : ((100 * a.toInt64) * dn).toInt < 70368744177664) (hy : ¬ (100 * (if (1 : Int32) < b then b else 1)) = 0) : sw_M l G yX3_flowAt wsX3_flowAt ({ frames := 2, cells := 0, slots := 0, locals := 55 } : Room) [.ref h0, .int a, .int b, .long dn] [(h0, .inr (3, [.int pm, .int pk, .ref d0, .ref f0])), (d0, .inl (G.2.1.1, 6, .inl pd)), (f0, .inl (G.2.1.1, 5, .inl pf))] (sw_QL G (S := Unit) (fun (r : Int64) (_ : Unit) => r = f_X3_flowAt_r pm pk pf a b dn) (fun _ => [(h0, .inr (3, [.int pm, .int pk, .ref d0, .ref f0])), (d0, .inl (G.2.1.1, 6, .inl pd)), (f0, .inl (G.2.1.1, 5, .inl pf))])) 0 0 := by
  refine sw_start (cc := cX3_flowAt) (maxL := 11) (ret := some .long) (lv := [(0, .ref h0), (1, .int a), (2, .int b), (3, .long dn)]) (own := RX3) (nm := "flowAt") (by decide +kernel) rfl rfl rfl rfl (Nat.le_of_ble_eq_true rfl) (fun C F T => ?_)
  have in3 : ∀ w ∈ u_ws RX3 TX3 4, w ∈ wsX3_flowAt := fun w h => List.mem_cons_of_mem _ (List.mem_append_right _ (h))
  refine sw_ldc2 (pc := 0) (v := 100) F (List.mem_of_getElem? (i := 1) rfl) dX3_flowAt_0 ?_
  refine sw_iload_n (pc := 3) F dX3_flowAt_3 rfl 1 rfl ?_
  refine sw_i2l (pc := 4) F dX3_flowAt_4 rfl ?_
  refine sw_lmul (pc := 5) F dX3_flowAt_5 ?_
  refine sw_topl (fun x_1 ex_1 => ?_)
  refine sw_lload_n (pc := 6) F dX3_flowAt_6 rfl 3 rfl ?_
  refine sw_lmul (pc := 7) F dX3_flowAt_7 ?_
  refine sw_topl (fun x_2 ex_2 => ?_)
  refine sw_calll (pc := 8) (wr := [(h0, .inr (3, [.int pm, .int pk, .ref d0, .ref f0])), (d0, .inl (G.2.1.1, 6, .inl pd)), (f0, .inl (G.2.1.1, 5, .inl pf))]) (k' := 0) (n' := 0) F (sw_runS (R := ({ frames := 2, cells := 0, slots := 0, locals := 55 } : Room)) (na := 1) F T.2.1 T.2.2.1 (k_X3_squareRoot l G x_2 (by subst_vars; exact hs0) (by subst_vars; exact hs1)) [] rfl (by decide) gX3_flowAt_X3_squareRoot rfl rfl rfl (by decide +kernel) ⟨Nat.le_of_ble_eq_true rfl, Nat.le_of_ble_eq_true rfl⟩ rfl rfl (Nat.le_of_ble_eq_true rfl) dX3_flowAt_8 (Nat.le_of_ble_eq_true rfl) (Nat.le_of_ble_eq_true rfl)) [] [0, 1, 2] rfl rfl (by decide) (by decide) rfl rfl (fun r_3 u_4 h_5 => ?_)
  have e_6 : r_3 = isq x_2 := h_5
  refine sw_eq (ws' := [(h0, .inr (3, [.int pm, .int pk, .ref d0, .ref f0])), (d0, .inl (G.2.1.1, 6, .inl pd)), (f0, .inl (G.2.1.1, 5, .inl pf))]) (lv' := [(0, .ref h0), (1, .int a), (2, .int b), (3, .long dn)]) (st' := [.long r_3]) rfl rfl rfl ?_
  refine sw_lstore (pc := 11) (lv' := [(5, .long r_3), (0, .ref h0), (1, .int a), (2, .int b), (3, .long dn)]) F T.1 dX3_flowAt_11 (by decide) rfl ?_
  refine sw_aload_n (pc := 13) F dX3_flowAt_13 rfl 1 rfl ?_
  refine sw_get (pc := 14) (Cn := RX3) (T := TX3) (N := 4) (ci := 3) (v := .int pk) F in3 0 rfl rfl 1 (by decide) rfl (List.mem_of_getElem? (i := 2) rfl) rfl dX3_flowAt_14 ?_
  refine sw_i2l (pc := 17) F dX3_flowAt_17 rfl ?_
  refine sw_lload (pc := 18) F dX3_flowAt_18 0 rfl ?_
  refine sw_lmul (pc := 20) F dX3_flowAt_20 ?_
  refine sw_topl (fun x_7 ex_7 => ?_)
  refine sw_ldc2 (pc := 21) (v := 10000) F (List.mem_of_getElem? (i := 3) rfl) dX3_flowAt_21 ?_
  refine sw_calll (pc := 24) (wr := [(h0, .inr (3, [.int pm, .int pk, .ref d0, .ref f0])), (d0, .inl (G.2.1.1, 6, .inl pd)), (f0, .inl (G.2.1.1, 5, .inl pf))]) (k' := 0) (n' := 0) F (sw_runS (R := ({ frames := 2, cells := 0, slots := 0, locals := 55 } : Room)) (na := 2) F T.2.1 T.2.2.1 (k_J9_floorDiv_f86c9 l G x_7 10000 (by decide)) [] rfl (by decide) gX3_flowAt_J9_floorDiv_f86c9 rfl rfl rfl (by decide +kernel) ⟨Nat.le_of_ble_eq_true rfl, Nat.le_of_ble_eq_true rfl⟩ rfl rfl (Nat.le_of_ble_eq_true rfl) dX3_flowAt_24 (Nat.le_of_ble_eq_true rfl) (Nat.le_of_ble_eq_true rfl)) [] [0, 1, 2] rfl rfl (by decide) (by decide) rfl rfl (fun r_8 u_9 h_10 => ?_)
  have e_11 : r_8 = f_J9_floorDiv_f86c9_r x_7 10000 := h_10
  refine sw_eq (ws' := [(h0, .inr (3, [.int pm, .int pk, .ref d0, .ref f0])), (d0, .inl (G.2.1.1, 6, .inl pd)), (f0, .inl (G.2.1.1, 5, .inl pf))]) (lv' := [(5, .long r_3), (0, .ref h0), (1, .int a), (2, .int b), (3, .long dn)]) (st' := [.long r_8]) rfl rfl rfl ?_
  refine sw_lstore (pc := 27) (lv' := [(7, .long r_8), (5, .long r_3), (0, .ref h0), (1, .int a), (2, .int b), (3, .long dn)]) F T.1 dX3_flowAt_27 (by decide) rfl ?_
  refine sw_aload_n (pc := 29) F dX3_flowAt_29 rfl 2 rfl ?_
  refine sw_get (pc := 30) (Cn := RX3) (T := TX3) (N := 4) (ci := 3) (v := .int pm) F in3 0 rfl rfl 0 (by decide) rfl (List.mem_of_getElem? (i := 4) rfl) rfl dX3_flowAt_30 ?_
  refine sw_iconst (pc := 33) (v := 1) F dX3_flowAt_33 rfl ?_
  refine sw_icmp_ne (pc := 34) (tgt := 54) F dX3_flowAt_34 (by decide) (fun c_12 => ?_) (fun c_12 => ?_)
  · skip
    refine sw_gets (pc := 54) (nm := "FACTOR_FLOWS") F rfl F.2.2.2.2.2.2.2.2.1.2.1 (List.mem_of_getElem? (i := 1) rfl) dX3_flowAt_54 ?_
    refine sw_aload_n (pc := 57) F dX3_flowAt_57 rfl 2 rfl ?_
    refine sw_get (pc := 58) (Cn := RX3) (T := TX3) (N := 4) (ci := 3) (v := .ref f0) F in3 0 rfl rfl 3 (by decide) rfl (List.mem_of_getElem? (i := 6) rfl) rfl dX3_flowAt_58 ?_
    refine sw_lload (pc := 61) F dX3_flowAt_61 0 rfl ?_
    refine sw_calll (pc := 63) (wr := [(h0, .inr (3, [.int pm, .int pk, .ref d0, .ref f0])), (d0, .inl (G.2.1.1, 6, .inl pd))]) (k' := 0) (n' := 0) F (sw_runS (R := ({ frames := 2, cells := 0, slots := 0, locals := 55 } : Room)) (na := 3) F T.2.1 T.2.2.1 (k_X3_interpolated_F l G f0 pf r_8) [2] rfl (by decide) gX3_flowAt_X3_interpolated rfl rfl rfl (by decide +kernel) ⟨Nat.le_of_ble_eq_true rfl, Nat.le_of_ble_eq_true rfl⟩ rfl rfl (Nat.le_of_ble_eq_true rfl) dX3_flowAt_63 (Nat.le_of_ble_eq_true rfl) (Nat.le_of_ble_eq_true rfl)) [2] [0, 1] rfl rfl (by decide) (by decide) rfl rfl (fun r_13 u_14 h_15 => ?_)
    have e_16 : r_13 = f_X3_interpolated_F_r pf r_8 := h_15
    refine sw_eq (ws' := [(h0, .inr (3, [.int pm, .int pk, .ref d0, .ref f0])), (d0, .inl (G.2.1.1, 6, .inl pd)), (f0, .inl (G.2.1.1, 5, .inl pf))]) (lv' := [(7, .long r_8), (5, .long r_3), (0, .ref h0), (1, .int a), (2, .int b), (3, .long dn)]) (st' := [.long r_13]) rfl rfl rfl ?_
    refine sw_lstore (pc := 66) (lv' := [(9, .long r_13), (7, .long r_8), (5, .long r_3), (0, .ref h0), (1, .int a), (2, .int b), (3, .long dn)]) F T.1 dX3_flowAt_66 (by decide) rfl ?_
    refine sw_lload (pc := 68) F dX3_flowAt_68 1 rfl ?_
    refine sw_lload (pc := 70) F dX3_flowAt_70 0 rfl ?_
    refine sw_lmul (pc := 72) F dX3_flowAt_72 ?_
    refine sw_topl (fun x_17 ex_17 => ?_)
    refine sw_ldc2 (pc := 73) (v := 10000) F (List.mem_of_getElem? (i := 3) rfl) dX3_flowAt_73 ?_
    refine sw_calll (pc := 76) (wr := [(h0, .inr (3, [.int pm, .int pk, .ref d0, .ref f0])), (d0, .inl (G.2.1.1, 6, .inl pd)), (f0, .inl (G.2.1.1, 5, .inl pf))]) (k' := 0) (n' := 0) F (sw_runS (R := ({ frames := 2, cells := 0, slots := 0, locals := 55 } : Room)) (na := 2) F T.2.1 T.2.2.1 (k_J9_floorDiv_f86c9 l G x_17 10000 (by decide)) [] rfl (by decide) gX3_flowAt_J9_floorDiv_f86c9 rfl rfl rfl (by decide +kernel) ⟨Nat.le_of_ble_eq_true rfl, Nat.le_of_ble_eq_true rfl⟩ rfl rfl (Nat.le_of_ble_eq_true rfl) dX3_flowAt_76 (Nat.le_of_ble_eq_true rfl) (Nat.le_of_ble_eq_true rfl)) [] [0, 1, 2] rfl rfl (by decide) (by decide) rfl rfl (fun r_18 u_19 h_20 => ?_)
    have e_21 : r_18 = f_J9_floorDiv_f86c9_r x_17 10000 := h_20
    refine sw_eq (ws' := [(h0, .inr (3, [.int pm, .int pk, .ref d0, .ref f0])), (d0, .inl (G.2.1.1, 6, .inl pd)), (f0, .inl (G.2.1.1, 5, .inl pf))]) (lv' := [(9, .long r_13), (7, .long r_8), (5, .long r_3), (0, .ref h0), (1, .int a), (2, .int b), (3, .long dn)]) (st' := [.long r_18]) rfl rfl rfl ?_
    subst e_21
    subst ex_17
    subst e_16
    subst e_11
    subst ex_7
    subst e_6
    subst ex_2
    subst ex_1
    exact sw_lret (pc := 79) F T () (by unfold f_X3_flowAt_r; rw [if_neg c_12]) rfl dX3_flowAt_79
  · skip
    refine sw_lload (pc := 37) F dX3_flowAt_37 0 rfl ?_
    refine sw_iload_n (pc := 39) F dX3_flowAt_39 rfl 3 rfl ?_
    refine sw_iload_n (pc := 40) F dX3_flowAt_40 rfl 4 rfl ?_
    refine sw_calli (pc := 41) (wr := [(h0, .inr (3, [.int pm, .int pk, .ref d0, .ref f0])), (d0, .inl (G.2.1.1, 6, .inl pd)), (f0, .inl (G.2.1.1, 5, .inl pf))]) (k' := 0) (n' := 0) F (sw_runS (R := ({ frames := 2, cells := 0, slots := 0, locals := 55 } : Room)) (na := 2) F T.2.1 T.2.2.1 (k_X3_expansion l G a b hy) [] rfl (by decide) gX3_flowAt_X3_expansion rfl rfl rfl (by decide +kernel) ⟨Nat.le_of_ble_eq_true rfl, Nat.le_of_ble_eq_true rfl⟩ rfl rfl (Nat.le_of_ble_eq_true rfl) dX3_flowAt_41 (Nat.le_of_ble_eq_true rfl) (Nat.le_of_ble_eq_true rfl)) [] [0, 1, 2] rfl rfl (by decide) (by decide) rfl rfl (fun r_22 u_23 h_24 => ?_)
    have e_25 : r_22 = f_X3_expansion_r a b := h_24
    refine sw_eq (ws' := [(h0, .inr (3, [.int pm, .int pk, .ref d0, .ref f0])), (d0, .inl (G.2.1.1, 6, .inl pd)), (f0, .inl (G.2.1.1, 5, .inl pf))]) (lv' := [(7, .long r_8), (5, .long r_3), (0, .ref h0), (1, .int a), (2, .int b), (3, .long dn)]) (st' := [.int r_22, .long r_8]) rfl rfl rfl ?_
    refine sw_i2l (pc := 44) F dX3_flowAt_44 rfl ?_
    refine sw_lmul (pc := 45) F dX3_flowAt_45 ?_
    refine sw_topl (fun x_26 ex_26 => ?_)
    refine sw_ldc2 (pc := 46) (v := 1000) F (List.mem_of_getElem? (i := 5) rfl) dX3_flowAt_46 ?_
    refine sw_calll (pc := 49) (wr := [(h0, .inr (3, [.int pm, .int pk, .ref d0, .ref f0])), (d0, .inl (G.2.1.1, 6, .inl pd)), (f0, .inl (G.2.1.1, 5, .inl pf))]) (k' := 0) (n' := 0) F (sw_runS (R := ({ frames := 2, cells := 0, slots := 0, locals := 55 } : Room)) (na := 2) F T.2.1 T.2.2.1 (k_J9_floorDiv_f86c9 l G x_26 1000 (by decide)) [] rfl (by decide) gX3_flowAt_J9_floorDiv_f86c9 rfl rfl rfl (by decide +kernel) ⟨Nat.le_of_ble_eq_true rfl, Nat.le_of_ble_eq_true rfl⟩ rfl rfl (Nat.le_of_ble_eq_true rfl) dX3_flowAt_49 (Nat.le_of_ble_eq_true rfl) (Nat.le_of_ble_eq_true rfl)) [] [0, 1, 2] rfl rfl (by decide) (by decide) rfl rfl (fun r_27 u_28 h_29 => ?_)
    have e_30 : r_27 = f_J9_floorDiv_f86c9_r x_26 1000 := h_29
    refine sw_eq (ws' := [(h0, .inr (3, [.int pm, .int pk, .ref d0, .ref f0])), (d0, .inl (G.2.1.1, 6, .inl pd)), (f0, .inl (G.2.1.1, 5, .inl pf))]) (lv' := [(7, .long r_8), (5, .long r_3), (0, .ref h0), (1, .int a), (2, .int b), (3, .long dn)]) (st' := [.long r_27]) rfl rfl rfl ?_
    refine sw_lstore (pc := 52) (lv' := [(7, .long r_27), (5, .long r_3), (0, .ref h0), (1, .int a), (2, .int b), (3, .long dn)]) F T.1 dX3_flowAt_52 (by decide) rfl ?_
    refine sw_gets (pc := 54) (nm := "FACTOR_FLOWS") F rfl F.2.2.2.2.2.2.2.2.1.2.1 (List.mem_of_getElem? (i := 1) rfl) dX3_flowAt_54 ?_
    refine sw_aload_n (pc := 57) F dX3_flowAt_57 rfl 2 rfl ?_
    refine sw_get (pc := 58) (Cn := RX3) (T := TX3) (N := 4) (ci := 3) (v := .ref f0) F in3 0 rfl rfl 3 (by decide) rfl (List.mem_of_getElem? (i := 6) rfl) rfl dX3_flowAt_58 ?_
    refine sw_lload (pc := 61) F dX3_flowAt_61 0 rfl ?_
    refine sw_calll (pc := 63) (wr := [(h0, .inr (3, [.int pm, .int pk, .ref d0, .ref f0])), (d0, .inl (G.2.1.1, 6, .inl pd))]) (k' := 0) (n' := 0) F (sw_runS (R := ({ frames := 2, cells := 0, slots := 0, locals := 55 } : Room)) (na := 3) F T.2.1 T.2.2.1 (k_X3_interpolated_F l G f0 pf r_27) [2] rfl (by decide) gX3_flowAt_X3_interpolated rfl rfl rfl (by decide +kernel) ⟨Nat.le_of_ble_eq_true rfl, Nat.le_of_ble_eq_true rfl⟩ rfl rfl (Nat.le_of_ble_eq_true rfl) dX3_flowAt_63 (Nat.le_of_ble_eq_true rfl) (Nat.le_of_ble_eq_true rfl)) [2] [0, 1] rfl rfl (by decide) (by decide) rfl rfl (fun r_31 u_32 h_33 => ?_)
    have e_34 : r_31 = f_X3_interpolated_F_r pf r_27 := h_33
    refine sw_eq (ws' := [(h0, .inr (3, [.int pm, .int pk, .ref d0, .ref f0])), (d0, .inl (G.2.1.1, 6, .inl pd)), (f0, .inl (G.2.1.1, 5, .inl pf))]) (lv' := [(7, .long r_27), (5, .long r_3), (0, .ref h0), (1, .int a), (2, .int b), (3, .long dn)]) (st' := [.long r_31]) rfl rfl rfl ?_
    refine sw_lstore (pc := 66) (lv' := [(9, .long r_31), (7, .long r_27), (5, .long r_3), (0, .ref h0), (1, .int a), (2, .int b), (3, .long dn)]) F T.1 dX3_flowAt_66 (by decide) rfl ?_
    refine sw_lload (pc := 68) F dX3_flowAt_68 1 rfl ?_
    refine sw_lload (pc := 70) F dX3_flowAt_70 0 rfl ?_
    refine sw_lmul (pc := 72) F dX3_flowAt_72 ?_
    refine sw_topl (fun x_35 ex_35 => ?_)
    refine sw_ldc2 (pc := 73) (v := 10000) F (List.mem_of_getElem? (i := 3) rfl) dX3_flowAt_73 ?_
    refine sw_calll (pc := 76) (wr := [(h0, .inr (3, [.int pm, .int pk, .ref d0, .ref f0])), (d0, .inl (G.2.1.1, 6, .inl pd)), (f0, .inl (G.2.1.1, 5, .inl pf))]) (k' := 0) (n' := 0) F (sw_runS (R := ({ frames := 2, cells := 0, slots := 0, locals := 55 } : Room)) (na := 2) F T.2.1 T.2.2.1 (k_J9_floorDiv_f86c9 l G x_35 10000 (by decide)) [] rfl (by decide) gX3_flowAt_J9_floorDiv_f86c9 rfl rfl rfl (by decide +kernel) ⟨Nat.le_of_ble_eq_true rfl, Nat.le_of_ble_eq_true rfl⟩ rfl rfl (Nat.le_of_ble_eq_true rfl) dX3_flowAt_76 (Nat.le_of_ble_eq_true rfl) (Nat.le_of_ble_eq_true rfl)) [] [0, 1, 2] rfl rfl (by decide) (by decide) rfl rfl (fun r_36 u_37 h_38 => ?_)
    have e_39 : r_36 = f_J9_floorDiv_f86c9_r x_35 10000 := h_38
    refine sw_eq (ws' := [(h0, .inr (3, [.int pm, .int pk, .ref d0, .ref f0])), (d0, .inl (G.2.1.1, 6, .inl pd)), (f0, .inl (G.2.1.1, 5, .inl pf))]) (lv' := [(9, .long r_31), (7, .long r_27), (5, .long r_3), (0, .ref h0), (1, .int a), (2, .int b), (3, .long dn)]) (st' := [.long r_36]) rfl rfl rfl ?_
    subst e_39
    subst ex_35
    subst e_34
    subst e_30
    subst ex_26
    subst e_25
    subst e_11
    subst ex_7
    subst e_6
    subst ex_2
    subst ex_1
    exact sw_lret (pc := 79) F T () (by unfold f_X3_flowAt_r; rw [if_pos c_12]) rfl dX3_flowAt_79
