def f_X10_chosen_r (S : Nat → Int64) : Int64 := if (f_X10_isFaulty_r S 0) = 0 then (if (f_X10_isFaulty_r S 1) = 0 then (if (S 37) = 0 then (if (S 18) < ((95 * (S 6)) / 100) then (0) else (1)) else (if ((90 * (S 6)) / 100) ≤ (S 19) then (1) else (0))) else (if (f_X10_isFaulty_r S 0) = 0 then (if (f_X10_isFaulty_r S 0) = 0 then (0) else (1)) else (if (f_X10_isFaulty_r S 1) = 0 then (if (f_X10_isFaulty_r S 0) = 0 then (0) else (1)) else ((S 37))))) else (if (f_X10_isFaulty_r S 0) = 0 then (if (f_X10_isFaulty_r S 0) = 0 then (0) else (1)) else (if (f_X10_isFaulty_r S 1) = 0 then (if (f_X10_isFaulty_r S 0) = 0 then (0) else (1)) else ((S 37))))
set_option maxHeartbeats 4000000 in
set_option maxRecDepth 100000 in
theorem k_X10_chosen (l : Launch) (G : sw_E) (h0 : Nat) (b0 : Nat) (b1 : Nat) (np : Int32) (th : Int32) (hh : Int64) (S : Nat → Int64) (P : Nat → Int64)  : sw_M l G yX10_chosen wsX10_chosen ({ frames := 1, cells := 0, slots := 0, locals := 21 } : Room) [.ref h0] [(h0, .inr (10, [.ref b0, .ref b1, .int np, .int th, .long hh])), (b0, .inl (G.2.1.2, 344, .inr (.inl S))), (b1, .inl (G.2.1.2, 1032, .inr (.inl P)))] (sw_QL G (S := Unit) (fun (r : Int64) (_ : Unit) => r = f_X10_chosen_r S) (fun _ => [(h0, .inr (10, [.ref b0, .ref b1, .int np, .int th, .long hh])), (b0, .inl (G.2.1.2, 344, .inr (.inl S))), (b1, .inl (G.2.1.2, 1032, .inr (.inl P)))])) 0 0 := by
  refine sw_start (cc := cX10_chosen) (maxL := 1) (ret := some .long) (lv := [(0, .ref h0)]) (own := RX10) (nm := "chosen") (by decide +kernel) rfl rfl rfl rfl (Nat.le_of_ble_eq_true rfl) (fun C F T => ?_)
  have in10 : ∀ w ∈ u_ws RX10 TX10 5, w ∈ wsX10_chosen := fun w h => List.mem_cons_of_mem _ (List.mem_append_right _ (h))
  refine sw_aload_n (pc := 0) F dX10_chosen_0 rfl 0 rfl ?_
  refine sw_iconst (pc := 1) (v := 0) F dX10_chosen_1 rfl ?_
  refine sw_calli (pc := 2) (wr := []) (k' := 0) (n' := 0) F (sw_runV (R := ({ frames := 1, cells := 0, slots := 0, locals := 21 } : Room)) (q0 := 0) (na := 1) F T.2.1 T.2.2.1 (k_X10_isFaulty l G h0 b0 b1 np th hh S P 0 0 rfl (by omega)) [0, 1, 2] rfl (by decide) gX10_chosen_X10_isFaulty rfl rfl rfl (by decide +kernel) ⟨Nat.le_of_ble_eq_true rfl, Nat.le_of_ble_eq_true rfl⟩ rfl rfl rfl rfl rfl (Nat.le_of_ble_eq_true rfl) dX10_chosen_2 (Nat.le_of_ble_eq_true rfl) (Nat.le_of_ble_eq_true rfl)) [0, 1, 2] [] rfl rfl (by decide) (by decide) rfl rfl (fun r_1 u_2 h_3 => ?_)
  have e_4 : r_1 = f_X10_isFaulty_r S 0 := h_3
  refine sw_eq (ws' := [(h0, .inr (10, [.ref b0, .ref b1, .int np, .int th, .long hh])), (b0, .inl (G.2.1.2, 344, .inr (.inl S))), (b1, .inl (G.2.1.2, 1032, .inr (.inl P)))]) (lv' := [(0, .ref h0)]) (st' := [.int r_1]) rfl rfl rfl ?_
  refine sw_if_ne (pc := 5) (tgt := 16) F dX10_chosen_5 (by decide) (fun c_5 => ?_) (fun c_5 => ?_)
  · skip
    refine sw_aload_n (pc := 16) F dX10_chosen_16 rfl 0 rfl ?_
    refine sw_iconst (pc := 17) (v := 0) F dX10_chosen_17 rfl ?_
    refine sw_calli (pc := 18) (wr := []) (k' := 0) (n' := 0) F (sw_runV (R := ({ frames := 1, cells := 0, slots := 0, locals := 21 } : Room)) (q0 := 0) (na := 1) F T.2.1 T.2.2.1 (k_X10_isFaulty l G h0 b0 b1 np th hh S P 0 0 rfl (by omega)) [0, 1, 2] rfl (by decide) gX10_chosen_X10_isFaulty rfl rfl rfl (by decide +kernel) ⟨Nat.le_of_ble_eq_true rfl, Nat.le_of_ble_eq_true rfl⟩ rfl rfl rfl rfl rfl (Nat.le_of_ble_eq_true rfl) dX10_chosen_18 (Nat.le_of_ble_eq_true rfl) (Nat.le_of_ble_eq_true rfl)) [0, 1, 2] [] rfl rfl (by decide) (by decide) rfl rfl (fun r_6 u_7 h_8 => ?_)
    have e_9 : r_6 = f_X10_isFaulty_r S 0 := h_8
    refine sw_eq (ws' := [(h0, .inr (10, [.ref b0, .ref b1, .int np, .int th, .long hh])), (b0, .inl (G.2.1.2, 344, .inr (.inl S))), (b1, .inl (G.2.1.2, 1032, .inr (.inl P)))]) (lv' := [(0, .ref h0)]) (st' := [.int r_6]) rfl rfl rfl ?_
    refine sw_if_eq (pc := 21) (tgt := 42) F dX10_chosen_21 (by decide) (fun c_10 => ?_) (fun c_10 => ?_)
    · skip
      refine sw_aload_n (pc := 42) F dX10_chosen_42 rfl 0 rfl ?_
      refine sw_iconst (pc := 43) (v := 0) F dX10_chosen_43 rfl ?_
      refine sw_calli (pc := 44) (wr := []) (k' := 0) (n' := 0) F (sw_runV (R := ({ frames := 1, cells := 0, slots := 0, locals := 21 } : Room)) (q0 := 0) (na := 1) F T.2.1 T.2.2.1 (k_X10_isFaulty l G h0 b0 b1 np th hh S P 0 0 rfl (by omega)) [0, 1, 2] rfl (by decide) gX10_chosen_X10_isFaulty rfl rfl rfl (by decide +kernel) ⟨Nat.le_of_ble_eq_true rfl, Nat.le_of_ble_eq_true rfl⟩ rfl rfl rfl rfl rfl (Nat.le_of_ble_eq_true rfl) dX10_chosen_44 (Nat.le_of_ble_eq_true rfl) (Nat.le_of_ble_eq_true rfl)) [0, 1, 2] [] rfl rfl (by decide) (by decide) rfl rfl (fun r_11 u_12 h_13 => ?_)
      have e_14 : r_11 = f_X10_isFaulty_r S 0 := h_13
      refine sw_eq (ws' := [(h0, .inr (10, [.ref b0, .ref b1, .int np, .int th, .long hh])), (b0, .inl (G.2.1.2, 344, .inr (.inl S))), (b1, .inl (G.2.1.2, 1032, .inr (.inl P)))]) (lv' := [(0, .ref h0)]) (st' := [.int r_11]) rfl rfl rfl ?_
      refine sw_if_eq (pc := 47) (tgt := 54) F dX10_chosen_47 (by decide) (fun c_15 => ?_) (fun c_15 => ?_)
      · skip
        refine sw_lconst (pc := 54) (v := 0) F dX10_chosen_54 rfl ?_
        subst e_14
        subst e_9
        subst e_4
        exact sw_lret (pc := 55) F T () (by unfold f_X10_chosen_r; rw [if_neg c_5, if_pos c_10, if_pos c_15]) rfl dX10_chosen_55
      · skip
        refine sw_lconst (pc := 50) (v := 1) F dX10_chosen_50 rfl ?_
        refine sw_goto (pc := 51) (tgt := 55) F dX10_chosen_51 (by decide) ?_
        subst e_14
        subst e_9
        subst e_4
        exact sw_lret (pc := 55) F T () (by unfold f_X10_chosen_r; rw [if_neg c_5, if_pos c_10, if_neg c_15]) rfl dX10_chosen_55
    · skip
      refine sw_aload_n (pc := 24) F dX10_chosen_24 rfl 0 rfl ?_
      refine sw_iconst (pc := 25) (v := 1) F dX10_chosen_25 rfl ?_
      refine sw_calli (pc := 26) (wr := []) (k' := 0) (n' := 0) F (sw_runV (R := ({ frames := 1, cells := 0, slots := 0, locals := 21 } : Room)) (q0 := 0) (na := 1) F T.2.1 T.2.2.1 (k_X10_isFaulty l G h0 b0 b1 np th hh S P 1 1 rfl (by omega)) [0, 1, 2] rfl (by decide) gX10_chosen_X10_isFaulty rfl rfl rfl (by decide +kernel) ⟨Nat.le_of_ble_eq_true rfl, Nat.le_of_ble_eq_true rfl⟩ rfl rfl rfl rfl rfl (Nat.le_of_ble_eq_true rfl) dX10_chosen_26 (Nat.le_of_ble_eq_true rfl) (Nat.le_of_ble_eq_true rfl)) [0, 1, 2] [] rfl rfl (by decide) (by decide) rfl rfl (fun r_16 u_17 h_18 => ?_)
      have e_19 : r_16 = f_X10_isFaulty_r S 1 := h_18
      refine sw_eq (ws' := [(h0, .inr (10, [.ref b0, .ref b1, .int np, .int th, .long hh])), (b0, .inl (G.2.1.2, 344, .inr (.inl S))), (b1, .inl (G.2.1.2, 1032, .inr (.inl P)))]) (lv' := [(0, .ref h0)]) (st' := [.int r_16]) rfl rfl rfl ?_
      refine sw_if_eq (pc := 29) (tgt := 42) F dX10_chosen_29 (by decide) (fun c_20 => ?_) (fun c_20 => ?_)
      · skip
        refine sw_aload_n (pc := 42) F dX10_chosen_42 rfl 0 rfl ?_
        refine sw_iconst (pc := 43) (v := 0) F dX10_chosen_43 rfl ?_
        refine sw_calli (pc := 44) (wr := []) (k' := 0) (n' := 0) F (sw_runV (R := ({ frames := 1, cells := 0, slots := 0, locals := 21 } : Room)) (q0 := 0) (na := 1) F T.2.1 T.2.2.1 (k_X10_isFaulty l G h0 b0 b1 np th hh S P 0 0 rfl (by omega)) [0, 1, 2] rfl (by decide) gX10_chosen_X10_isFaulty rfl rfl rfl (by decide +kernel) ⟨Nat.le_of_ble_eq_true rfl, Nat.le_of_ble_eq_true rfl⟩ rfl rfl rfl rfl rfl (Nat.le_of_ble_eq_true rfl) dX10_chosen_44 (Nat.le_of_ble_eq_true rfl) (Nat.le_of_ble_eq_true rfl)) [0, 1, 2] [] rfl rfl (by decide) (by decide) rfl rfl (fun r_21 u_22 h_23 => ?_)
        have e_24 : r_21 = f_X10_isFaulty_r S 0 := h_23
        refine sw_eq (ws' := [(h0, .inr (10, [.ref b0, .ref b1, .int np, .int th, .long hh])), (b0, .inl (G.2.1.2, 344, .inr (.inl S))), (b1, .inl (G.2.1.2, 1032, .inr (.inl P)))]) (lv' := [(0, .ref h0)]) (st' := [.int r_21]) rfl rfl rfl ?_
        refine sw_if_eq (pc := 47) (tgt := 54) F dX10_chosen_47 (by decide) (fun c_25 => ?_) (fun c_25 => ?_)
        · skip
          refine sw_lconst (pc := 54) (v := 0) F dX10_chosen_54 rfl ?_
          subst e_24
          subst e_19
          subst e_9
          subst e_4
          exact sw_lret (pc := 55) F T () (by unfold f_X10_chosen_r; rw [if_neg c_5, if_neg c_10, if_pos c_20, if_pos c_25]) rfl dX10_chosen_55
        · skip
          refine sw_lconst (pc := 50) (v := 1) F dX10_chosen_50 rfl ?_
          refine sw_goto (pc := 51) (tgt := 55) F dX10_chosen_51 (by decide) ?_
          subst e_24
          subst e_19
          subst e_9
          subst e_4
          exact sw_lret (pc := 55) F T () (by unfold f_X10_chosen_r; rw [if_neg c_5, if_neg c_10, if_pos c_20, if_neg c_25]) rfl dX10_chosen_55
      · skip
        refine sw_aload_n (pc := 32) F dX10_chosen_32 rfl 0 rfl ?_
        refine sw_get (pc := 33) (Cn := RX10) (T := TX10) (N := 5) (ci := 10) (v := .ref b0) F in10 0 rfl rfl 0 (by decide) rfl (List.mem_of_getElem? (i := 1) rfl) rfl dX10_chosen_33 ?_
        refine sw_bipush (pc := 36) (v := 37) F dX10_chosen_36 rfl ?_
        refine sw_lald (pc := 38) F 1 rfl (sw_in rfl) dX10_chosen_38 ?_
        refine sw_naml (e := S 37) rfl (fun x_26 ex_26 => ?_)
        refine sw_goto (pc := 39) (tgt := 55) F dX10_chosen_39 (by decide) ?_
        subst ex_26
        subst e_19
        subst e_9
        subst e_4
        exact sw_lret (pc := 55) F T () (by unfold f_X10_chosen_r; rw [if_neg c_5, if_neg c_10, if_neg c_20]) rfl dX10_chosen_55
  · skip
    refine sw_aload_n (pc := 8) F dX10_chosen_8 rfl 0 rfl ?_
    refine sw_iconst (pc := 9) (v := 1) F dX10_chosen_9 rfl ?_
    refine sw_calli (pc := 10) (wr := []) (k' := 0) (n' := 0) F (sw_runV (R := ({ frames := 1, cells := 0, slots := 0, locals := 21 } : Room)) (q0 := 0) (na := 1) F T.2.1 T.2.2.1 (k_X10_isFaulty l G h0 b0 b1 np th hh S P 1 1 rfl (by omega)) [0, 1, 2] rfl (by decide) gX10_chosen_X10_isFaulty rfl rfl rfl (by decide +kernel) ⟨Nat.le_of_ble_eq_true rfl, Nat.le_of_ble_eq_true rfl⟩ rfl rfl rfl rfl rfl (Nat.le_of_ble_eq_true rfl) dX10_chosen_10 (Nat.le_of_ble_eq_true rfl) (Nat.le_of_ble_eq_true rfl)) [0, 1, 2] [] rfl rfl (by decide) (by decide) rfl rfl (fun r_27 u_28 h_29 => ?_)
    have e_30 : r_27 = f_X10_isFaulty_r S 1 := h_29
    refine sw_eq (ws' := [(h0, .inr (10, [.ref b0, .ref b1, .int np, .int th, .long hh])), (b0, .inl (G.2.1.2, 344, .inr (.inl S))), (b1, .inl (G.2.1.2, 1032, .inr (.inl P)))]) (lv' := [(0, .ref h0)]) (st' := [.int r_27]) rfl rfl rfl ?_
    refine sw_if_eq (pc := 13) (tgt := 56) F dX10_chosen_13 (by decide) (fun c_31 => ?_) (fun c_31 => ?_)
    · skip
      refine sw_aload_n (pc := 56) F dX10_chosen_56 rfl 0 rfl ?_
      refine sw_get (pc := 57) (Cn := RX10) (T := TX10) (N := 5) (ci := 10) (v := .ref b0) F in10 0 rfl rfl 0 (by decide) rfl (List.mem_of_getElem? (i := 1) rfl) rfl dX10_chosen_57 ?_
      refine sw_bipush (pc := 60) (v := 37) F dX10_chosen_60 rfl ?_
      refine sw_lald (pc := 62) F 1 rfl (sw_in rfl) dX10_chosen_62 ?_
      refine sw_naml (e := S 37) rfl (fun x_32 ex_32 => ?_)
      refine sw_lconst (pc := 63) (v := 0) F dX10_chosen_63 rfl ?_
      refine sw_lcmp_ne (pc := 64) (tgt := 100) F dX10_chosen_64 dX10_chosen_65 (by decide) (fun c_33 => ?_) (fun c_33 => ?_)
      · skip
        refine sw_aload_n (pc := 100) F dX10_chosen_100 rfl 0 rfl ?_
        refine sw_get (pc := 101) (Cn := RX10) (T := TX10) (N := 5) (ci := 10) (v := .ref b0) F in10 0 rfl rfl 0 (by decide) rfl (List.mem_of_getElem? (i := 1) rfl) rfl dX10_chosen_101 ?_
        refine sw_bipush (pc := 104) (v := 19) F dX10_chosen_104 rfl ?_
        refine sw_lald (pc := 106) F 1 rfl (sw_in rfl) dX10_chosen_106 ?_
        refine sw_naml (e := S 19) rfl (fun x_34 ex_34 => ?_)
        refine sw_ldc2 (pc := 107) (v := 90) F (List.mem_of_getElem? (i := 4) rfl) dX10_chosen_107 ?_
        refine sw_aload_n (pc := 110) F dX10_chosen_110 rfl 0 rfl ?_
        refine sw_get (pc := 111) (Cn := RX10) (T := TX10) (N := 5) (ci := 10) (v := .ref b0) F in10 0 rfl rfl 0 (by decide) rfl (List.mem_of_getElem? (i := 1) rfl) rfl dX10_chosen_111 ?_
        refine sw_bipush (pc := 114) (v := 6) F dX10_chosen_114 rfl ?_
        refine sw_lald (pc := 116) F 1 rfl (sw_in rfl) dX10_chosen_116 ?_
        refine sw_naml (e := S 6) rfl (fun x_35 ex_35 => ?_)
        refine sw_lmul (pc := 117) F dX10_chosen_117 ?_
        refine sw_topl (fun x_36 ex_36 => ?_)
        refine sw_ldc2 (pc := 118) (v := 100) F (List.mem_of_getElem? (i := 3) rfl) dX10_chosen_118 ?_
        refine sw_ldiv (pc := 121) F dX10_chosen_121 (by decide) ?_
        refine sw_topl (fun x_37 ex_37 => ?_)
        refine sw_lcmp_ge (pc := 122) (tgt := 130) F dX10_chosen_122 dX10_chosen_123 (by decide) (fun c_38 => ?_) (fun c_38 => ?_)
        · skip
          refine sw_lconst (pc := 130) (v := 1) F dX10_chosen_130 rfl ?_
          subst ex_37
          subst ex_36
          subst ex_35
          subst ex_34
          subst ex_32
          subst e_30
          subst e_4
          exact sw_lret (pc := 131) F T () (by unfold f_X10_chosen_r; rw [if_pos c_5, if_pos c_31, if_neg c_33, if_pos c_38]) rfl dX10_chosen_131
        · skip
          refine sw_lconst (pc := 126) (v := 0) F dX10_chosen_126 rfl ?_
          refine sw_goto (pc := 127) (tgt := 131) F dX10_chosen_127 (by decide) ?_
          subst ex_37
          subst ex_36
          subst ex_35
          subst ex_34
          subst ex_32
          subst e_30
          subst e_4
          exact sw_lret (pc := 131) F T () (by unfold f_X10_chosen_r; rw [if_pos c_5, if_pos c_31, if_neg c_33, if_neg c_38]) rfl dX10_chosen_131
      · skip
        refine sw_aload_n (pc := 68) F dX10_chosen_68 rfl 0 rfl ?_
        refine sw_get (pc := 69) (Cn := RX10) (T := TX10) (N := 5) (ci := 10) (v := .ref b0) F in10 0 rfl rfl 0 (by decide) rfl (List.mem_of_getElem? (i := 1) rfl) rfl dX10_chosen_69 ?_
        refine sw_bipush (pc := 72) (v := 18) F dX10_chosen_72 rfl ?_
        refine sw_lald (pc := 74) F 1 rfl (sw_in rfl) dX10_chosen_74 ?_
        refine sw_naml (e := S 18) rfl (fun x_39 ex_39 => ?_)
        refine sw_ldc2 (pc := 75) (v := 95) F (List.mem_of_getElem? (i := 2) rfl) dX10_chosen_75 ?_
        refine sw_aload_n (pc := 78) F dX10_chosen_78 rfl 0 rfl ?_
        refine sw_get (pc := 79) (Cn := RX10) (T := TX10) (N := 5) (ci := 10) (v := .ref b0) F in10 0 rfl rfl 0 (by decide) rfl (List.mem_of_getElem? (i := 1) rfl) rfl dX10_chosen_79 ?_
        refine sw_bipush (pc := 82) (v := 6) F dX10_chosen_82 rfl ?_
        refine sw_lald (pc := 84) F 1 rfl (sw_in rfl) dX10_chosen_84 ?_
        refine sw_naml (e := S 6) rfl (fun x_40 ex_40 => ?_)
        refine sw_lmul (pc := 85) F dX10_chosen_85 ?_
        refine sw_topl (fun x_41 ex_41 => ?_)
        refine sw_ldc2 (pc := 86) (v := 100) F (List.mem_of_getElem? (i := 3) rfl) dX10_chosen_86 ?_
        refine sw_ldiv (pc := 89) F dX10_chosen_89 (by decide) ?_
        refine sw_topl (fun x_42 ex_42 => ?_)
        refine sw_lcmp_lt (pc := 90) (tgt := 98) F dX10_chosen_90 dX10_chosen_91 (by decide) (fun c_43 => ?_) (fun c_43 => ?_)
        · skip
          refine sw_lconst (pc := 98) (v := 0) F dX10_chosen_98 rfl ?_
          subst ex_42
          subst ex_41
          subst ex_40
          subst ex_39
          subst ex_32
          subst e_30
          subst e_4
          exact sw_lret (pc := 99) F T () (by unfold f_X10_chosen_r; rw [if_pos c_5, if_pos c_31, if_pos c_33, if_pos c_43]) rfl dX10_chosen_99
        · skip
          refine sw_lconst (pc := 94) (v := 1) F dX10_chosen_94 rfl ?_
          refine sw_goto (pc := 95) (tgt := 99) F dX10_chosen_95 (by decide) ?_
          subst ex_42
          subst ex_41
          subst ex_40
          subst ex_39
          subst ex_32
          subst e_30
          subst e_4
          exact sw_lret (pc := 99) F T () (by unfold f_X10_chosen_r; rw [if_pos c_5, if_pos c_31, if_pos c_33, if_neg c_43]) rfl dX10_chosen_99
    · skip
      refine sw_aload_n (pc := 16) F dX10_chosen_16 rfl 0 rfl ?_
      refine sw_iconst (pc := 17) (v := 0) F dX10_chosen_17 rfl ?_
      refine sw_calli (pc := 18) (wr := []) (k' := 0) (n' := 0) F (sw_runV (R := ({ frames := 1, cells := 0, slots := 0, locals := 21 } : Room)) (q0 := 0) (na := 1) F T.2.1 T.2.2.1 (k_X10_isFaulty l G h0 b0 b1 np th hh S P 0 0 rfl (by omega)) [0, 1, 2] rfl (by decide) gX10_chosen_X10_isFaulty rfl rfl rfl (by decide +kernel) ⟨Nat.le_of_ble_eq_true rfl, Nat.le_of_ble_eq_true rfl⟩ rfl rfl rfl rfl rfl (Nat.le_of_ble_eq_true rfl) dX10_chosen_18 (Nat.le_of_ble_eq_true rfl) (Nat.le_of_ble_eq_true rfl)) [0, 1, 2] [] rfl rfl (by decide) (by decide) rfl rfl (fun r_44 u_45 h_46 => ?_)
      have e_47 : r_44 = f_X10_isFaulty_r S 0 := h_46
      refine sw_eq (ws' := [(h0, .inr (10, [.ref b0, .ref b1, .int np, .int th, .long hh])), (b0, .inl (G.2.1.2, 344, .inr (.inl S))), (b1, .inl (G.2.1.2, 1032, .inr (.inl P)))]) (lv' := [(0, .ref h0)]) (st' := [.int r_44]) rfl rfl rfl ?_
      refine sw_if_eq (pc := 21) (tgt := 42) F dX10_chosen_21 (by decide) (fun c_48 => ?_) (fun c_48 => ?_)
      · skip
        refine sw_aload_n (pc := 42) F dX10_chosen_42 rfl 0 rfl ?_
        refine sw_iconst (pc := 43) (v := 0) F dX10_chosen_43 rfl ?_
        refine sw_calli (pc := 44) (wr := []) (k' := 0) (n' := 0) F (sw_runV (R := ({ frames := 1, cells := 0, slots := 0, locals := 21 } : Room)) (q0 := 0) (na := 1) F T.2.1 T.2.2.1 (k_X10_isFaulty l G h0 b0 b1 np th hh S P 0 0 rfl (by omega)) [0, 1, 2] rfl (by decide) gX10_chosen_X10_isFaulty rfl rfl rfl (by decide +kernel) ⟨Nat.le_of_ble_eq_true rfl, Nat.le_of_ble_eq_true rfl⟩ rfl rfl rfl rfl rfl (Nat.le_of_ble_eq_true rfl) dX10_chosen_44 (Nat.le_of_ble_eq_true rfl) (Nat.le_of_ble_eq_true rfl)) [0, 1, 2] [] rfl rfl (by decide) (by decide) rfl rfl (fun r_49 u_50 h_51 => ?_)
        have e_52 : r_49 = f_X10_isFaulty_r S 0 := h_51
        refine sw_eq (ws' := [(h0, .inr (10, [.ref b0, .ref b1, .int np, .int th, .long hh])), (b0, .inl (G.2.1.2, 344, .inr (.inl S))), (b1, .inl (G.2.1.2, 1032, .inr (.inl P)))]) (lv' := [(0, .ref h0)]) (st' := [.int r_49]) rfl rfl rfl ?_
        refine sw_if_eq (pc := 47) (tgt := 54) F dX10_chosen_47 (by decide) (fun c_53 => ?_) (fun c_53 => ?_)
        · skip
          refine sw_lconst (pc := 54) (v := 0) F dX10_chosen_54 rfl ?_
          subst e_52
          subst e_47
          subst e_30
          subst e_4
          exact sw_lret (pc := 55) F T () (by unfold f_X10_chosen_r; rw [if_pos c_5, if_neg c_31, if_pos c_48, if_pos c_53]) rfl dX10_chosen_55
        · skip
          refine sw_lconst (pc := 50) (v := 1) F dX10_chosen_50 rfl ?_
          refine sw_goto (pc := 51) (tgt := 55) F dX10_chosen_51 (by decide) ?_
          subst e_52
          subst e_47
          subst e_30
          subst e_4
          exact sw_lret (pc := 55) F T () (by unfold f_X10_chosen_r; rw [if_pos c_5, if_neg c_31, if_pos c_48, if_neg c_53]) rfl dX10_chosen_55
      · skip
        refine sw_aload_n (pc := 24) F dX10_chosen_24 rfl 0 rfl ?_
        refine sw_iconst (pc := 25) (v := 1) F dX10_chosen_25 rfl ?_
        refine sw_calli (pc := 26) (wr := []) (k' := 0) (n' := 0) F (sw_runV (R := ({ frames := 1, cells := 0, slots := 0, locals := 21 } : Room)) (q0 := 0) (na := 1) F T.2.1 T.2.2.1 (k_X10_isFaulty l G h0 b0 b1 np th hh S P 1 1 rfl (by omega)) [0, 1, 2] rfl (by decide) gX10_chosen_X10_isFaulty rfl rfl rfl (by decide +kernel) ⟨Nat.le_of_ble_eq_true rfl, Nat.le_of_ble_eq_true rfl⟩ rfl rfl rfl rfl rfl (Nat.le_of_ble_eq_true rfl) dX10_chosen_26 (Nat.le_of_ble_eq_true rfl) (Nat.le_of_ble_eq_true rfl)) [0, 1, 2] [] rfl rfl (by decide) (by decide) rfl rfl (fun r_54 u_55 h_56 => ?_)
        have e_57 : r_54 = f_X10_isFaulty_r S 1 := h_56
        refine sw_eq (ws' := [(h0, .inr (10, [.ref b0, .ref b1, .int np, .int th, .long hh])), (b0, .inl (G.2.1.2, 344, .inr (.inl S))), (b1, .inl (G.2.1.2, 1032, .inr (.inl P)))]) (lv' := [(0, .ref h0)]) (st' := [.int r_54]) rfl rfl rfl ?_
        refine sw_if_eq (pc := 29) (tgt := 42) F dX10_chosen_29 (by decide) (fun c_58 => ?_) (fun c_58 => ?_)
        · skip
          refine sw_aload_n (pc := 42) F dX10_chosen_42 rfl 0 rfl ?_
          refine sw_iconst (pc := 43) (v := 0) F dX10_chosen_43 rfl ?_
          refine sw_calli (pc := 44) (wr := []) (k' := 0) (n' := 0) F (sw_runV (R := ({ frames := 1, cells := 0, slots := 0, locals := 21 } : Room)) (q0 := 0) (na := 1) F T.2.1 T.2.2.1 (k_X10_isFaulty l G h0 b0 b1 np th hh S P 0 0 rfl (by omega)) [0, 1, 2] rfl (by decide) gX10_chosen_X10_isFaulty rfl rfl rfl (by decide +kernel) ⟨Nat.le_of_ble_eq_true rfl, Nat.le_of_ble_eq_true rfl⟩ rfl rfl rfl rfl rfl (Nat.le_of_ble_eq_true rfl) dX10_chosen_44 (Nat.le_of_ble_eq_true rfl) (Nat.le_of_ble_eq_true rfl)) [0, 1, 2] [] rfl rfl (by decide) (by decide) rfl rfl (fun r_59 u_60 h_61 => ?_)
          have e_62 : r_59 = f_X10_isFaulty_r S 0 := h_61
          refine sw_eq (ws' := [(h0, .inr (10, [.ref b0, .ref b1, .int np, .int th, .long hh])), (b0, .inl (G.2.1.2, 344, .inr (.inl S))), (b1, .inl (G.2.1.2, 1032, .inr (.inl P)))]) (lv' := [(0, .ref h0)]) (st' := [.int r_59]) rfl rfl rfl ?_
          refine sw_if_eq (pc := 47) (tgt := 54) F dX10_chosen_47 (by decide) (fun c_63 => ?_) (fun c_63 => ?_)
          · skip
            refine sw_lconst (pc := 54) (v := 0) F dX10_chosen_54 rfl ?_
            subst e_62
            subst e_57
            subst e_47
            subst e_30
            subst e_4
            exact sw_lret (pc := 55) F T () (by unfold f_X10_chosen_r; rw [if_pos c_5, if_neg c_31, if_neg c_48, if_pos c_58, if_pos c_63]) rfl dX10_chosen_55
          · skip
            refine sw_lconst (pc := 50) (v := 1) F dX10_chosen_50 rfl ?_
            refine sw_goto (pc := 51) (tgt := 55) F dX10_chosen_51 (by decide) ?_
            subst e_62
            subst e_57
            subst e_47
            subst e_30
            subst e_4
            exact sw_lret (pc := 55) F T () (by unfold f_X10_chosen_r; rw [if_pos c_5, if_neg c_31, if_neg c_48, if_pos c_58, if_neg c_63]) rfl dX10_chosen_55
        · skip
          refine sw_aload_n (pc := 32) F dX10_chosen_32 rfl 0 rfl ?_
          refine sw_get (pc := 33) (Cn := RX10) (T := TX10) (N := 5) (ci := 10) (v := .ref b0) F in10 0 rfl rfl 0 (by decide) rfl (List.mem_of_getElem? (i := 1) rfl) rfl dX10_chosen_33 ?_
          refine sw_bipush (pc := 36) (v := 37) F dX10_chosen_36 rfl ?_
          refine sw_lald (pc := 38) F 1 rfl (sw_in rfl) dX10_chosen_38 ?_
          refine sw_naml (e := S 37) rfl (fun x_64 ex_64 => ?_)
          refine sw_goto (pc := 39) (tgt := 55) F dX10_chosen_39 (by decide) ?_
          subst ex_64
          subst e_57
          subst e_47
          subst e_30
          subst e_4
          exact sw_lret (pc := 55) F T () (by unfold f_X10_chosen_r; rw [if_pos c_5, if_neg c_31, if_neg c_48, if_neg c_58]) rfl dX10_chosen_55
theorem chosen_01 {S : Nat → Int64} (hr : S 37 = 0 ∨ S 37 = 1) : f_X10_chosen_r S = 0 ∨ f_X10_chosen_r S = 1 := by
  unfold f_X10_chosen_r
  repeat' split
  all_goals first | exact Or.inl rfl | exact Or.inr rfl | exact hr
theorem sqr_ex {v : Int64} (h0 : 0 ≤ v.toInt) (h1 : v.toInt < 70368744177664) : sqr v (isq v) := by
  have key : ∀ n : Nat, ∀ x : Nat, x < 2 ^ 46 → x < (n + 1) * (n + 1) → ∃ r : Nat, r * r ≤ x ∧ x < (r + 1) * (r + 1) := by
    intro n
    induction n with
    | zero => intro x _ h; exact ⟨0, by omega, h⟩
    | succ n ih =>
      intro x hx h
      by_cases h2 : x < (n + 1) * (n + 1)
      · exact ih x hx h2
      · exact ⟨n + 1, by omega, h⟩
  obtain ⟨r, h2, h3⟩ := key 8388607 v.toInt.toNat (by omega) (by omega)
  have hr : r < 8388608 := by
    rcases Nat.lt_or_ge r 8388608 with h | h
    · exact h
    · have : 8388608 * 8388608 ≤ r * r := Nat.mul_le_mul h h
      omega
  have hs : sqr v (lN r) := by
    have e : (lN r).toInt = (r : Int) := pk_lT (by omega)
    refine ⟨by rw [e]; omega, ?_, ?_⟩
    · rw [e]
      have : ((r * r : Nat) : Int) ≤ (v.toInt.toNat : Int) := by omega
      rw [Int.natCast_mul] at this
      omega
    · rw [e]
      have : (v.toInt.toNat : Int) < (((r + 1) * (r + 1) : Nat) : Int) := by omega
      rw [Int.natCast_mul, Int.natCast_add] at this
      have e2 : ((1 : Nat) : Int) = 1 := rfl
      rw [e2] at this
      omega
  exact isq_spec hs
theorem fb_prod {k v : Int64} (hK : 0 ≤ k.toInt ∧ k.toInt ≤ 100000) (h0 : 0 ≤ v.toInt) (h1 : v.toInt < 70368744177664) : (k * isq v / 10000).toInt = k.toInt * (isq v).toInt / 10000 ∧ 0 ≤ k.toInt * (isq v).toInt ∧ k.toInt * (isq v).toInt ≤ 838860800000 := by
  have hs := isq_lt h0 h1 (sqr_ex h0 h1)
  have hm : k.toInt * (isq v).toInt ≤ 100000 * 8388608 := Int.mul_le_mul hK.2 (by omega) hs.1 (by decide)
  have hm0 : 0 ≤ k.toInt * (isq v).toInt := Int.mul_nonneg hK.1 hs.1
  have e1 : (k * isq v).toInt = k.toInt * (isq v).toInt := Kit.i64_mul (by omega) (by omega)
  refine ⟨?_, hm0, by omega⟩
  have k1 : (10000 : Int64).toInt = 10000 := rfl
  rw [Kit.i64_div (by rw [e1]; omega), e1, k1]
  exact Int.tdiv_eq_ediv_of_nonneg hm0
theorem fb_q0 {k v : Int64} (hK : 0 ≤ k.toInt ∧ k.toInt ≤ 100000) (h0 : 0 ≤ v.toInt) (h1 : v.toInt < 70368744177664) : 0 ≤ k * isq v / 10000 := by
  obtain ⟨e, h2, h3⟩ := fb_prod hK h0 h1
  rw [Int64.le_iff_toInt_le, e]
  show (0 : Int) ≤ _
  omega
theorem fb_qy {k v y : Int64} (hK : 0 ≤ k.toInt ∧ k.toInt ≤ 100000) (h0 : 0 ≤ v.toInt) (h1 : v.toInt < 70368744177664) (hy : 0 ≤ y.toInt ∧ y.toInt ≤ 1000) : (k * isq v / 10000 * y / 1000).toInt = k.toInt * (isq v).toInt / 10000 * y.toInt / 1000 ∧ 0 ≤ k.toInt * (isq v).toInt / 10000 * y.toInt := by
  obtain ⟨e, h2, h3⟩ := fb_prod hK h0 h1
  have hq0 : 0 ≤ k.toInt * (isq v).toInt / 10000 := by omega
  have hq1 : k.toInt * (isq v).toInt / 10000 ≤ 83886080 := by omega
  have hm : k.toInt * (isq v).toInt / 10000 * y.toInt ≤ 83886080 * 1000 := Int.mul_le_mul hq1 hy.2 hy.1 (by decide)
  have hm0 : 0 ≤ k.toInt * (isq v).toInt / 10000 * y.toInt := Int.mul_nonneg hq0 hy.1
  have e1 : (k * isq v / 10000 * y).toInt = k.toInt * (isq v).toInt / 10000 * y.toInt := by rw [Kit.i64_mul (by rw [e]; omega) (by rw [e]; omega), e]
  refine ⟨?_, hm0⟩
  have k1 : (1000 : Int64).toInt = 1000 := rfl
  rw [Kit.i64_div (by rw [e1]; omega), e1, k1]
  exact Int.tdiv_eq_ediv_of_nonneg hm0
theorem fb_q1' {k v y : Int64} (hK : 0 ≤ k.toInt ∧ k.toInt ≤ 100000) (h0 : 0 ≤ v.toInt) (h1 : v.toInt < 70368744177664) (hy : 0 ≤ y.toInt ∧ y.toInt ≤ 1000) : 0 ≤ k * isq v / 10000 * y / 1000 := by
  obtain ⟨e, h2⟩ := fb_qy hK h0 h1 hy
  rw [Int64.le_iff_toInt_le, e]
  show (0 : Int) ≤ _
  omega
/-- what the pressure takes off -/
theorem fb_y {a b : Int64} (ha : 0 ≤ a.toInt ∧ a.toInt ≤ 30000) (hb : b.toInt ≤ 1000000) (hc : ¬ b ≤ 1) : (1000 - 300 * a / (100 * b)).toInt = 1000 - 300 * a.toInt / (100 * b.toInt) ∧ 0 ≤ 300 * a.toInt / (100 * b.toInt) ∧ 300 * a.toInt / (100 * b.toInt) ≤ 9000000 := by
  rw [Int64.le_iff_toInt_le] at hc
  have k1 : (1 : Int64).toInt = 1 := rfl
  rw [k1] at hc
  have k2 : (300 : Int64).toInt = 300 := rfl
  have k3 : (100 : Int64).toInt = 100 := rfl
  have e1 : (300 * a).toInt = 300 * a.toInt := by rw [Kit.i64_mul (by rw [k2]; omega) (by rw [k2]; omega), k2]
  have e2 : (100 * b).toInt = 100 * b.toInt := by rw [Kit.i64_mul (by rw [k3]; omega) (by rw [k3]; omega), k3]
  have e3 : (300 * a / (100 * b)).toInt = 300 * a.toInt / (100 * b.toInt) := by
    rw [Kit.i64_div (by rw [e1]; omega), e1, e2]
    exact Int.tdiv_eq_ediv_of_nonneg (by omega)
  have h0 : 0 ≤ 300 * a.toInt / (100 * b.toInt) := Int.ediv_nonneg (by omega) (by omega)
  have h1 : 300 * a.toInt / (100 * b.toInt) ≤ 300 * a.toInt := Int.ediv_le_self _ (by omega)
  refine ⟨?_, h0, by omega⟩
  have k4 : (1000 : Int64).toInt = 1000 := rfl
  rw [Kit.i64_sub (by rw [e3, k4]; omega) (by rw [e3, k4]; omega), e3, k4]
theorem fb_y1 {a : Int64} (ha : 0 ≤ a.toInt ∧ a.toInt ≤ 30000) : (1000 - 300 * a / 100).toInt = 1000 - 300 * a.toInt / 100 := by
  have k2 : (300 : Int64).toInt = 300 := rfl
  have k3 : (100 : Int64).toInt = 100 := rfl
  have e1 : (300 * a).toInt = 300 * a.toInt := by rw [Kit.i64_mul (by rw [k2]; omega) (by rw [k2]; omega), k2]
  have e3 : (300 * a / 100).toInt = 300 * a.toInt / 100 := by
    rw [Kit.i64_div (by rw [e1]; omega), e1, k3]
    exact Int.tdiv_eq_ediv_of_nonneg (by omega)
  have k4 : (1000 : Int64).toInt = 1000 := rfl
  rw [Kit.i64_sub (by rw [e3, k4]; omega) (by rw [e3, k4]; omega), e3, k4]
theorem fb_qhy {k v a b : Int64} (hK : 0 ≤ k.toInt ∧ k.toInt ≤ 100000) (h0 : 0 ≤ v.toInt) (h1 : v.toInt < 70368744177664) (ha : 0 ≤ a.toInt ∧ a.toInt ≤ 30000) (hb : b.toInt ≤ 1000000) (hc : ¬ b ≤ 1) (hy : ¬ (1000 - 300 * a / (100 * b)) ≤ 700) : 0 ≤ k * isq v / 10000 * (1000 - 300 * a / (100 * b)) / 1000 := by
  obtain ⟨e, h2, h3⟩ := fb_y ha hb hc
  rw [Int64.le_iff_toInt_le] at hy
  have k1 : (700 : Int64).toInt = 700 := rfl
  rw [k1] at hy
  exact fb_q1' hK h0 h1 ⟨by omega, by omega⟩
theorem fb_qh7 {k v a b : Int64} (hK : 0 ≤ k.toInt ∧ k.toInt ≤ 100000) (h0 : 0 ≤ v.toInt) (h1 : v.toInt < 70368744177664) (ha : 0 ≤ a.toInt ∧ a.toInt ≤ 30000) (hb : b.toInt ≤ 1000000) (hc : ¬ b ≤ 1) : 0 ≤ k * isq v / 10000 * 700 / 1000 :=
  fb_q1' hK h0 h1 ⟨by decide, by decide⟩
theorem fb_q1y {k v a : Int64} (hK : 0 ≤ k.toInt ∧ k.toInt ≤ 100000) (h0 : 0 ≤ v.toInt) (h1 : v.toInt < 70368744177664) (ha : 0 ≤ a.toInt ∧ a.toInt ≤ 30000) (hy : ¬ (1000 - 300 * a / 100) ≤ 700) : 0 ≤ k * isq v / 10000 * (1000 - 300 * a / 100) / 1000 := by
  have e := fb_y1 ha
  rw [Int64.le_iff_toInt_le] at hy
  have k1 : (700 : Int64).toInt = 700 := rfl
  rw [k1] at hy
  exact fb_q1' hK h0 h1 ⟨by omega, by omega⟩
theorem fb_q17 {k v a : Int64} (hK : 0 ≤ k.toInt ∧ k.toInt ≤ 100000) (h0 : 0 ≤ v.toInt) (h1 : v.toInt < 70368744177664) (ha : 0 ≤ a.toInt ∧ a.toInt ≤ 30000) : 0 ≤ k * isq v / 10000 * 700 / 1000 :=
  fb_q1' hK h0 h1 ⟨by decide, by decide⟩

def g_X10_ranges_0  (S : Nat → Int64) : Nat → Int64 := if (f_X10_chosen_r S) = (S 37) then (S) else ((f_X10_logs_o1 (vp_updL S 37 (f_X10_chosen_r S)) 2 (f_X10_chosen_r S)))
def g_X10_ranges_1  (S1 : Nat → Int64) : Nat → Int64 := if (f_X10_isFaulty_r S1 0) = 0 then (if ((vp_updL S1 38 0) (18 + ((vp_updL S1 38 0) 37).toInt.toNat)) ≤ 0 then ((vp_updL (vp_updL S1 38 0) 39 0)) else ((vp_updL (vp_updL S1 38 0) 39 ((vp_updL S1 38 0) (18 + ((vp_updL S1 38 0) 37).toInt.toNat))))) else (if (f_X10_isFaulty_r S1 1) = 0 then (if ((vp_updL S1 38 0) (18 + ((vp_updL S1 38 0) 37).toInt.toNat)) ≤ 0 then ((vp_updL (vp_updL S1 38 0) 39 0)) else ((vp_updL (vp_updL S1 38 0) 39 ((vp_updL S1 38 0) (18 + ((vp_updL S1 38 0) 37).toInt.toNat))))) else (if ((vp_updL S1 38 ((S1 38) + 1)) 38) = 11 then (if ((f_X10_logs_o1 (vp_updL S1 38 ((S1 38) + 1)) 3 0) 38) ≤ 10 then ((vp_updL (f_X10_logs_o1 (vp_updL S1 38 ((S1 38) + 1)) 3 0) 39 ((f_X10_logs_o1 (vp_updL S1 38 ((S1 38) + 1)) 3 0) 39))) else ((vp_updL (f_X10_logs_o1 (vp_updL S1 38 ((S1 38) + 1)) 3 0) 39 0))) else (if ((vp_updL S1 38 ((S1 38) + 1)) 38) ≤ 10 then ((vp_updL (vp_updL S1 38 ((S1 38) + 1)) 39 ((vp_updL S1 38 ((S1 38) + 1)) 39))) else ((vp_updL (vp_updL S1 38 ((S1 38) + 1)) 39 0)))))
set_option maxHeartbeats 4000000 in
set_option maxRecDepth 100000 in
theorem k_X10_ranges (l : Launch) (G : sw_E) (h0 : Nat) (b0 : Nat) (b1 : Nat) (np : Int32) (th : Int32) (hh : Int64) (S : Nat → Int64) (P : Nat → Int64) (hm : mI S) (hr : S 37 = 0 ∨ S 37 = 1) : sw_M l G yX10_ranges wsX10_ranges ({ frames := 2, cells := 0, slots := 0, locals := 48 } : Room) [.ref h0] [(h0, .inr (10, [.ref b0, .ref b1, .int np, .int th, .long hh])), (b0, .inl (G.2.1.2, 344, .inr (.inl S))), (b1, .inl (G.2.1.2, 1032, .inr (.inl P)))] (sw_QV G (S := Nat → Int64) (fun (u : Nat → Int64) => u = (g_X10_ranges_1 (g_X10_ranges_0 S))) (fun u => [(h0, .inr (10, [.ref b0, .ref b1, .int np, .int th, .long hh])), (b0, .inl (G.2.1.2, 344, .inr (.inl u))), (b1, .inl (G.2.1.2, 1032, .inr (.inl P)))])) 0 0 := by
  refine sw_start (cc := cX10_ranges) (maxL := 5) (ret := none) (lv := [(0, .ref h0)]) (own := RX10) (nm := "ranges") (by decide +kernel) rfl rfl rfl rfl (Nat.le_of_ble_eq_true rfl) (fun C F T => ?_)
  have in10 : ∀ w ∈ u_ws RX10 TX10 5, w ∈ wsX10_ranges := fun w h => List.mem_cons_of_mem _ (List.mem_append_right _ (h))
  have J1 : ∀ (S1 : Nat → Int64), S1 = (g_X10_ranges_0 S) → mI S1 → S1 37 = 0 ∨ S1 37 = 1 → SW G C 0 0 [(h0, .inr (10, [.ref b0, .ref b1, .int np, .int th, .long hh])), (b0, .inl (G.2.1.2, 344, .inr (.inl S1))), (b1, .inl (G.2.1.2, 1032, .inr (.inl P)))] [(0, .ref h0)] 31 [] := by
    intro S1 hS1 hm1 hr1
    refine sw_aload_n (pc := 31) F dX10_ranges_31 rfl 0 rfl ?_
    refine sw_iconst (pc := 32) (v := 0) F dX10_ranges_32 rfl ?_
    refine sw_calli (pc := 33) (wr := []) (k' := 0) (n' := 0) F (sw_runV (R := ({ frames := 2, cells := 0, slots := 0, locals := 48 } : Room)) (q0 := 0) (na := 1) F T.2.1 T.2.2.1 (k_X10_isFaulty l G h0 b0 b1 np th hh S1 P 0 0 rfl (by omega)) [0, 1, 2] rfl (by decide) gX10_ranges_X10_isFaulty rfl rfl rfl (by decide +kernel) ⟨Nat.le_of_ble_eq_true rfl, Nat.le_of_ble_eq_true rfl⟩ rfl rfl rfl rfl rfl (Nat.le_of_ble_eq_true rfl) dX10_ranges_33 (Nat.le_of_ble_eq_true rfl) (Nat.le_of_ble_eq_true rfl)) [0, 1, 2] [] rfl rfl (by decide) (by decide) rfl rfl (fun r_13 u_14 h_15 => ?_)
    have e_16 : r_13 = f_X10_isFaulty_r S1 0 := h_15
    refine sw_eq (ws' := [(h0, .inr (10, [.ref b0, .ref b1, .int np, .int th, .long hh])), (b0, .inl (G.2.1.2, 344, .inr (.inl S1))), (b1, .inl (G.2.1.2, 1032, .inr (.inl P)))]) (lv' := [(0, .ref h0)]) (st' := [.int r_13]) rfl rfl rfl ?_
    refine sw_if_eq (pc := 36) (tgt := 113) F dX10_ranges_36 (by decide) (fun c_17 => ?_) (fun c_17 => ?_)
    · skip
      refine sw_aload_n (pc := 113) F dX10_ranges_113 rfl 0 rfl ?_
      refine sw_get (pc := 114) (Cn := RX10) (T := TX10) (N := 5) (ci := 10) (v := .ref b0) F in10 0 rfl rfl 0 (by decide) rfl (List.mem_of_getElem? (i := 1) rfl) rfl dX10_ranges_114 ?_
      refine sw_bipush (pc := 117) (v := 38) F dX10_ranges_117 rfl ?_
      refine sw_lconst (pc := 119) (v := 0) F dX10_ranges_119 rfl ?_
      obtain ⟨f_18, ef_18⟩ : ∃ y : Nat → Int64, y = vp_updL S1 38 0 := ⟨_, rfl⟩
      refine sw_last (pc := 120) (ws' := [(h0, .inr (10, [.ref b0, .ref b1, .int np, .int th, .long hh])), (b0, .inl (G.2.1.2, 344, .inr (.inl f_18))), (b1, .inl (G.2.1.2, 1032, .inr (.inl P)))]) F 1 rfl (sw_in rfl) dX10_ranges_120 (by rw [ef_18]; rfl) ?_
      have mf_18 : mI f_18 := by rw [ef_18]; exact mI_u hm1 (by decide)
      refine sw_aload_n (pc := 121) F dX10_ranges_121 rfl 0 rfl ?_
      refine sw_get (pc := 122) (Cn := RX10) (T := TX10) (N := 5) (ci := 10) (v := .ref b0) F in10 0 rfl rfl 0 (by decide) rfl (List.mem_of_getElem? (i := 1) rfl) rfl dX10_ranges_122 ?_
      refine sw_bipush (pc := 125) (v := 18) F dX10_ranges_125 rfl ?_
      refine sw_aload_n (pc := 127) F dX10_ranges_127 rfl 0 rfl ?_
      refine sw_get (pc := 128) (Cn := RX10) (T := TX10) (N := 5) (ci := 10) (v := .ref b0) F in10 0 rfl rfl 0 (by decide) rfl (List.mem_of_getElem? (i := 1) rfl) rfl dX10_ranges_128 ?_
      refine sw_bipush (pc := 131) (v := 37) F dX10_ranges_131 rfl ?_
      refine sw_lald (pc := 133) F 1 rfl (sw_in rfl) dX10_ranges_133 ?_
      refine sw_naml (e := f_18 37) rfl (fun x_19 ex_19 => ?_)
      refine sw_l2i (pc := 134) F dX10_ranges_134 rfl ?_
      have z_20 := rg_idx (x := x_19) (by rw [ex_19, ef_18, updL_ne (by decide)]; exact hr1)
      have z_20b := z_20.2
      refine sw_iadd (pc := 135) F dX10_ranges_135 ?_
      refine sw_topi (fun x_21 ex_21 => ?_)
      have ix_21 : x_21 = nI (18 + x_19.toInt.toNat) := by rw [ex_21, z_20.1]; exact nI_add 18 x_19.toInt.toNat
      refine sw_lald (pc := 136) F 1 rfl (by rw [ix_21]; exact vp_in_nI (by omega) (by decide)) dX10_ranges_136 ?_
      refine sw_naml (e := f_18 (18 + x_19.toInt.toNat)) (by rw [(show x_21.toNatClampNeg = 18 + x_19.toInt.toNat by rw [ix_21]; exact nI_clamp (by omega))]) (fun x_22 ex_22 => ?_)
      refine sw_lstore_n (pc := 137) (lv' := [(3, .long x_22), (0, .ref h0)]) F T.1 dX10_ranges_137 rfl (by decide) rfl ?_
      refine sw_aload_n (pc := 138) F dX10_ranges_138 rfl 1 rfl ?_
      refine sw_get (pc := 139) (Cn := RX10) (T := TX10) (N := 5) (ci := 10) (v := .ref b0) F in10 0 rfl rfl 0 (by decide) rfl (List.mem_of_getElem? (i := 1) rfl) rfl dX10_ranges_139 ?_
      refine sw_bipush (pc := 142) (v := 39) F dX10_ranges_142 rfl ?_
      refine sw_lload_n (pc := 144) F dX10_ranges_144 rfl 0 rfl ?_
      refine sw_lconst (pc := 145) (v := 0) F dX10_ranges_145 rfl ?_
      refine sw_lcmp_le (pc := 146) (tgt := 154) F dX10_ranges_146 dX10_ranges_147 (by decide) (fun c_23 => ?_) (fun c_23 => ?_)
      · skip
        refine sw_lconst (pc := 154) (v := 0) F dX10_ranges_154 rfl ?_
        obtain ⟨f_24, ef_24⟩ : ∃ y : Nat → Int64, y = vp_updL f_18 39 0 := ⟨_, rfl⟩
        refine sw_last (pc := 155) (ws' := [(h0, .inr (10, [.ref b0, .ref b1, .int np, .int th, .long hh])), (b0, .inl (G.2.1.2, 344, .inr (.inl f_24))), (b1, .inl (G.2.1.2, 1032, .inr (.inl P)))]) F 1 rfl (sw_in rfl) dX10_ranges_155 (by rw [ef_24]; rfl) ?_
        have mf_24 : mI f_24 := by rw [ef_24]; exact mI_u mf_18 (by decide)
        subst ef_24
        subst ex_22
        subst ex_21
        subst ex_19
        subst ef_18
        subst e_16
        exact sw_vret (pc := 156) F T ((vp_updL (vp_updL S1 38 0) 39 0)) (by rw [← hS1]; unfold g_X10_ranges_1; rw [if_pos c_17, if_pos c_23]) rfl dX10_ranges_156
      · skip
        refine sw_lload_n (pc := 150) F dX10_ranges_150 rfl 0 rfl ?_
        refine sw_goto (pc := 151) (tgt := 155) F dX10_ranges_151 (by decide) ?_
        obtain ⟨f_25, ef_25⟩ : ∃ y : Nat → Int64, y = vp_updL f_18 39 x_22 := ⟨_, rfl⟩
        refine sw_last (pc := 155) (ws' := [(h0, .inr (10, [.ref b0, .ref b1, .int np, .int th, .long hh])), (b0, .inl (G.2.1.2, 344, .inr (.inl f_25))), (b1, .inl (G.2.1.2, 1032, .inr (.inl P)))]) F 1 rfl (sw_in rfl) dX10_ranges_155 (by rw [ef_25]; rfl) ?_
        have mf_25 : mI f_25 := by rw [ef_25]; exact mI_u mf_18 (by decide)
        subst ef_25
        subst ex_22
        subst ex_21
        subst ex_19
        subst ef_18
        subst e_16
        exact sw_vret (pc := 156) F T ((vp_updL (vp_updL S1 38 0) 39 ((vp_updL S1 38 0) (18 + ((vp_updL S1 38 0) 37).toInt.toNat)))) (by rw [← hS1]; unfold g_X10_ranges_1; rw [if_pos c_17, if_neg c_23]) rfl dX10_ranges_156
    · skip
      refine sw_aload_n (pc := 39) F dX10_ranges_39 rfl 0 rfl ?_
      refine sw_iconst (pc := 40) (v := 1) F dX10_ranges_40 rfl ?_
      refine sw_calli (pc := 41) (wr := []) (k' := 0) (n' := 0) F (sw_runV (R := ({ frames := 2, cells := 0, slots := 0, locals := 48 } : Room)) (q0 := 0) (na := 1) F T.2.1 T.2.2.1 (k_X10_isFaulty l G h0 b0 b1 np th hh S1 P 1 1 rfl (by omega)) [0, 1, 2] rfl (by decide) gX10_ranges_X10_isFaulty rfl rfl rfl (by decide +kernel) ⟨Nat.le_of_ble_eq_true rfl, Nat.le_of_ble_eq_true rfl⟩ rfl rfl rfl rfl rfl (Nat.le_of_ble_eq_true rfl) dX10_ranges_41 (Nat.le_of_ble_eq_true rfl) (Nat.le_of_ble_eq_true rfl)) [0, 1, 2] [] rfl rfl (by decide) (by decide) rfl rfl (fun r_26 u_27 h_28 => ?_)
      have e_29 : r_26 = f_X10_isFaulty_r S1 1 := h_28
      refine sw_eq (ws' := [(h0, .inr (10, [.ref b0, .ref b1, .int np, .int th, .long hh])), (b0, .inl (G.2.1.2, 344, .inr (.inl S1))), (b1, .inl (G.2.1.2, 1032, .inr (.inl P)))]) (lv' := [(0, .ref h0)]) (st' := [.int r_26]) rfl rfl rfl ?_
      refine sw_if_eq (pc := 44) (tgt := 113) F dX10_ranges_44 (by decide) (fun c_30 => ?_) (fun c_30 => ?_)
      · skip
        refine sw_aload_n (pc := 113) F dX10_ranges_113 rfl 0 rfl ?_
        refine sw_get (pc := 114) (Cn := RX10) (T := TX10) (N := 5) (ci := 10) (v := .ref b0) F in10 0 rfl rfl 0 (by decide) rfl (List.mem_of_getElem? (i := 1) rfl) rfl dX10_ranges_114 ?_
        refine sw_bipush (pc := 117) (v := 38) F dX10_ranges_117 rfl ?_
        refine sw_lconst (pc := 119) (v := 0) F dX10_ranges_119 rfl ?_
        obtain ⟨f_31, ef_31⟩ : ∃ y : Nat → Int64, y = vp_updL S1 38 0 := ⟨_, rfl⟩
        refine sw_last (pc := 120) (ws' := [(h0, .inr (10, [.ref b0, .ref b1, .int np, .int th, .long hh])), (b0, .inl (G.2.1.2, 344, .inr (.inl f_31))), (b1, .inl (G.2.1.2, 1032, .inr (.inl P)))]) F 1 rfl (sw_in rfl) dX10_ranges_120 (by rw [ef_31]; rfl) ?_
        have mf_31 : mI f_31 := by rw [ef_31]; exact mI_u hm1 (by decide)
        refine sw_aload_n (pc := 121) F dX10_ranges_121 rfl 0 rfl ?_
        refine sw_get (pc := 122) (Cn := RX10) (T := TX10) (N := 5) (ci := 10) (v := .ref b0) F in10 0 rfl rfl 0 (by decide) rfl (List.mem_of_getElem? (i := 1) rfl) rfl dX10_ranges_122 ?_
        refine sw_bipush (pc := 125) (v := 18) F dX10_ranges_125 rfl ?_
        refine sw_aload_n (pc := 127) F dX10_ranges_127 rfl 0 rfl ?_
        refine sw_get (pc := 128) (Cn := RX10) (T := TX10) (N := 5) (ci := 10) (v := .ref b0) F in10 0 rfl rfl 0 (by decide) rfl (List.mem_of_getElem? (i := 1) rfl) rfl dX10_ranges_128 ?_
        refine sw_bipush (pc := 131) (v := 37) F dX10_ranges_131 rfl ?_
        refine sw_lald (pc := 133) F 1 rfl (sw_in rfl) dX10_ranges_133 ?_
        refine sw_naml (e := f_31 37) rfl (fun x_32 ex_32 => ?_)
        refine sw_l2i (pc := 134) F dX10_ranges_134 rfl ?_
        have z_33 := rg_idx (x := x_32) (by rw [ex_32, ef_31, updL_ne (by decide)]; exact hr1)
        have z_33b := z_33.2
        refine sw_iadd (pc := 135) F dX10_ranges_135 ?_
        refine sw_topi (fun x_34 ex_34 => ?_)
        have ix_34 : x_34 = nI (18 + x_32.toInt.toNat) := by rw [ex_34, z_33.1]; exact nI_add 18 x_32.toInt.toNat
        refine sw_lald (pc := 136) F 1 rfl (by rw [ix_34]; exact vp_in_nI (by omega) (by decide)) dX10_ranges_136 ?_
        refine sw_naml (e := f_31 (18 + x_32.toInt.toNat)) (by rw [(show x_34.toNatClampNeg = 18 + x_32.toInt.toNat by rw [ix_34]; exact nI_clamp (by omega))]) (fun x_35 ex_35 => ?_)
        refine sw_lstore_n (pc := 137) (lv' := [(3, .long x_35), (0, .ref h0)]) F T.1 dX10_ranges_137 rfl (by decide) rfl ?_
        refine sw_aload_n (pc := 138) F dX10_ranges_138 rfl 1 rfl ?_
        refine sw_get (pc := 139) (Cn := RX10) (T := TX10) (N := 5) (ci := 10) (v := .ref b0) F in10 0 rfl rfl 0 (by decide) rfl (List.mem_of_getElem? (i := 1) rfl) rfl dX10_ranges_139 ?_
        refine sw_bipush (pc := 142) (v := 39) F dX10_ranges_142 rfl ?_
        refine sw_lload_n (pc := 144) F dX10_ranges_144 rfl 0 rfl ?_
        refine sw_lconst (pc := 145) (v := 0) F dX10_ranges_145 rfl ?_
        refine sw_lcmp_le (pc := 146) (tgt := 154) F dX10_ranges_146 dX10_ranges_147 (by decide) (fun c_36 => ?_) (fun c_36 => ?_)
        · skip
          refine sw_lconst (pc := 154) (v := 0) F dX10_ranges_154 rfl ?_
          obtain ⟨f_37, ef_37⟩ : ∃ y : Nat → Int64, y = vp_updL f_31 39 0 := ⟨_, rfl⟩
          refine sw_last (pc := 155) (ws' := [(h0, .inr (10, [.ref b0, .ref b1, .int np, .int th, .long hh])), (b0, .inl (G.2.1.2, 344, .inr (.inl f_37))), (b1, .inl (G.2.1.2, 1032, .inr (.inl P)))]) F 1 rfl (sw_in rfl) dX10_ranges_155 (by rw [ef_37]; rfl) ?_
          have mf_37 : mI f_37 := by rw [ef_37]; exact mI_u mf_31 (by decide)
          subst ef_37
          subst ex_35
          subst ex_34
          subst ex_32
          subst ef_31
          subst e_29
          subst e_16
          exact sw_vret (pc := 156) F T ((vp_updL (vp_updL S1 38 0) 39 0)) (by rw [← hS1]; unfold g_X10_ranges_1; rw [if_neg c_17, if_pos c_30, if_pos c_36]) rfl dX10_ranges_156
        · skip
          refine sw_lload_n (pc := 150) F dX10_ranges_150 rfl 0 rfl ?_
          refine sw_goto (pc := 151) (tgt := 155) F dX10_ranges_151 (by decide) ?_
          obtain ⟨f_38, ef_38⟩ : ∃ y : Nat → Int64, y = vp_updL f_31 39 x_35 := ⟨_, rfl⟩
          refine sw_last (pc := 155) (ws' := [(h0, .inr (10, [.ref b0, .ref b1, .int np, .int th, .long hh])), (b0, .inl (G.2.1.2, 344, .inr (.inl f_38))), (b1, .inl (G.2.1.2, 1032, .inr (.inl P)))]) F 1 rfl (sw_in rfl) dX10_ranges_155 (by rw [ef_38]; rfl) ?_
          have mf_38 : mI f_38 := by rw [ef_38]; exact mI_u mf_31 (by decide)
          subst ef_38
          subst ex_35
          subst ex_34
          subst ex_32
          subst ef_31
          subst e_29
          subst e_16
          exact sw_vret (pc := 156) F T ((vp_updL (vp_updL S1 38 0) 39 ((vp_updL S1 38 0) (18 + ((vp_updL S1 38 0) 37).toInt.toNat)))) (by rw [← hS1]; unfold g_X10_ranges_1; rw [if_neg c_17, if_pos c_30, if_neg c_36]) rfl dX10_ranges_156
      · skip
        refine sw_aload_n (pc := 47) F dX10_ranges_47 rfl 0 rfl ?_
        refine sw_get (pc := 48) (Cn := RX10) (T := TX10) (N := 5) (ci := 10) (v := .ref b0) F in10 0 rfl rfl 0 (by decide) rfl (List.mem_of_getElem? (i := 1) rfl) rfl dX10_ranges_48 ?_
        refine sw_bipush (pc := 51) (v := 38) F dX10_ranges_51 rfl ?_
        refine sw_dup2 (pc := 53) F dX10_ranges_53 rfl rfl ?_
        refine sw_lald (pc := 54) F 1 rfl (sw_in rfl) dX10_ranges_54 ?_
        refine sw_naml (e := S1 38) rfl (fun x_39 ex_39 => ?_)
        refine sw_lconst (pc := 55) (v := 1) F dX10_ranges_55 rfl ?_
        refine sw_ladd (pc := 56) F dX10_ranges_56 ?_
        refine sw_topl (fun x_40 ex_40 => ?_)
        obtain ⟨f_41, ef_41⟩ : ∃ y : Nat → Int64, y = vp_updL S1 38 x_40 := ⟨_, rfl⟩
        refine sw_last (pc := 57) (ws' := [(h0, .inr (10, [.ref b0, .ref b1, .int np, .int th, .long hh])), (b0, .inl (G.2.1.2, 344, .inr (.inl f_41))), (b1, .inl (G.2.1.2, 1032, .inr (.inl P)))]) F 1 rfl (sw_in rfl) dX10_ranges_57 (by rw [ef_41]; rfl) ?_
        have mf_41 : mI f_41 := by rw [ef_41]; exact mI_u hm1 (by decide)
        refine sw_aload_n (pc := 58) F dX10_ranges_58 rfl 0 rfl ?_
        refine sw_get (pc := 59) (Cn := RX10) (T := TX10) (N := 5) (ci := 10) (v := .ref b0) F in10 0 rfl rfl 0 (by decide) rfl (List.mem_of_getElem? (i := 1) rfl) rfl dX10_ranges_59 ?_
        refine sw_bipush (pc := 62) (v := 38) F dX10_ranges_62 rfl ?_
        refine sw_lald (pc := 64) F 1 rfl (sw_in rfl) dX10_ranges_64 ?_
        refine sw_naml (e := f_41 38) rfl (fun x_42 ex_42 => ?_)
        refine sw_ldc2 (pc := 65) (v := 11) F (List.mem_of_getElem? (i := 2) rfl) dX10_ranges_65 ?_
        refine sw_lcmp_ne (pc := 68) (tgt := 78) F dX10_ranges_68 dX10_ranges_69 (by decide) (fun c_43 => ?_) (fun c_43 => ?_)
        · skip
          refine sw_aload_n (pc := 78) F dX10_ranges_78 rfl 0 rfl ?_
          refine sw_get (pc := 79) (Cn := RX10) (T := TX10) (N := 5) (ci := 10) (v := .ref b0) F in10 0 rfl rfl 0 (by decide) rfl (List.mem_of_getElem? (i := 1) rfl) rfl dX10_ranges_79 ?_
          refine sw_bipush (pc := 82) (v := 39) F dX10_ranges_82 rfl ?_
          refine sw_aload_n (pc := 84) F dX10_ranges_84 rfl 0 rfl ?_
          refine sw_get (pc := 85) (Cn := RX10) (T := TX10) (N := 5) (ci := 10) (v := .ref b0) F in10 0 rfl rfl 0 (by decide) rfl (List.mem_of_getElem? (i := 1) rfl) rfl dX10_ranges_85 ?_
          refine sw_bipush (pc := 88) (v := 38) F dX10_ranges_88 rfl ?_
          refine sw_lald (pc := 90) F 1 rfl (sw_in rfl) dX10_ranges_90 ?_
          refine sw_naml (e := f_41 38) rfl (fun x_44 ex_44 => ?_)
          refine sw_ldc2 (pc := 91) (v := 10) F (List.mem_of_getElem? (i := 3) rfl) dX10_ranges_91 ?_
          refine sw_lcmp_le (pc := 94) (tgt := 102) F dX10_ranges_94 dX10_ranges_95 (by decide) (fun c_45 => ?_) (fun c_45 => ?_)
          · skip
            refine sw_aload_n (pc := 102) F dX10_ranges_102 rfl 0 rfl ?_
            refine sw_get (pc := 103) (Cn := RX10) (T := TX10) (N := 5) (ci := 10) (v := .ref b0) F in10 0 rfl rfl 0 (by decide) rfl (List.mem_of_getElem? (i := 1) rfl) rfl dX10_ranges_103 ?_
            refine sw_bipush (pc := 106) (v := 39) F dX10_ranges_106 rfl ?_
            refine sw_lald (pc := 108) F 1 rfl (sw_in rfl) dX10_ranges_108 ?_
            refine sw_naml (e := f_41 39) rfl (fun x_46 ex_46 => ?_)
            obtain ⟨f_47, ef_47⟩ : ∃ y : Nat → Int64, y = vp_updL f_41 39 x_46 := ⟨_, rfl⟩
            refine sw_last (pc := 109) (ws' := [(h0, .inr (10, [.ref b0, .ref b1, .int np, .int th, .long hh])), (b0, .inl (G.2.1.2, 344, .inr (.inl f_47))), (b1, .inl (G.2.1.2, 1032, .inr (.inl P)))]) F 1 rfl (sw_in rfl) dX10_ranges_109 (by rw [ef_47]; rfl) ?_
            have mf_47 : mI f_47 := by rw [ef_47]; exact mI_u mf_41 (by decide)
            refine sw_goto (pc := 110) (tgt := 156) F dX10_ranges_110 (by decide) ?_
            subst ef_47
            subst ex_46
            subst ex_44
            subst ex_42
            subst ef_41
            subst ex_40
            subst ex_39
            subst e_29
            subst e_16
            exact sw_vret (pc := 156) F T ((vp_updL (vp_updL S1 38 ((S1 38) + 1)) 39 ((vp_updL S1 38 ((S1 38) + 1)) 39))) (by rw [← hS1]; unfold g_X10_ranges_1; rw [if_neg c_17, if_neg c_30, if_neg c_43, if_pos c_45]) rfl dX10_ranges_156
          · skip
            refine sw_lconst (pc := 98) (v := 0) F dX10_ranges_98 rfl ?_
            refine sw_goto (pc := 99) (tgt := 109) F dX10_ranges_99 (by decide) ?_
            obtain ⟨f_48, ef_48⟩ : ∃ y : Nat → Int64, y = vp_updL f_41 39 0 := ⟨_, rfl⟩
            refine sw_last (pc := 109) (ws' := [(h0, .inr (10, [.ref b0, .ref b1, .int np, .int th, .long hh])), (b0, .inl (G.2.1.2, 344, .inr (.inl f_48))), (b1, .inl (G.2.1.2, 1032, .inr (.inl P)))]) F 1 rfl (sw_in rfl) dX10_ranges_109 (by rw [ef_48]; rfl) ?_
            have mf_48 : mI f_48 := by rw [ef_48]; exact mI_u mf_41 (by decide)
            refine sw_goto (pc := 110) (tgt := 156) F dX10_ranges_110 (by decide) ?_
            subst ef_48
            subst ex_44
            subst ex_42
            subst ef_41
            subst ex_40
            subst ex_39
            subst e_29
            subst e_16
            exact sw_vret (pc := 156) F T ((vp_updL (vp_updL S1 38 ((S1 38) + 1)) 39 0)) (by rw [← hS1]; unfold g_X10_ranges_1; rw [if_neg c_17, if_neg c_30, if_neg c_43, if_neg c_45]) rfl dX10_ranges_156
        · skip
          refine sw_aload_n (pc := 72) F dX10_ranges_72 rfl 0 rfl ?_
          refine sw_iconst (pc := 73) (v := 3) F dX10_ranges_73 rfl ?_
          refine sw_lconst (pc := 74) (v := 0) F dX10_ranges_74 rfl ?_
          refine sw_callv (pc := 75) (wr := []) (k' := 0) (n' := 0) F (sw_runV (R := ({ frames := 2, cells := 0, slots := 0, locals := 48 } : Room)) (q0 := 0) (na := 2) F T.2.1 T.2.2.1 (k_X10_logs l G h0 b0 b1 np th hh f_41 P 3 0 (mf_41).1) [0, 1, 2] rfl (by decide) gX10_ranges_X10_logs rfl rfl rfl (by decide +kernel) ⟨Nat.le_of_ble_eq_true rfl, Nat.le_of_ble_eq_true rfl⟩ rfl rfl rfl rfl rfl (Nat.le_of_ble_eq_true rfl) dX10_ranges_75 (Nat.le_of_ble_eq_true rfl) (Nat.le_of_ble_eq_true rfl)) [0, 1, 2] [] rfl rfl (by decide) (by decide) rfl rfl (fun u_50 h_51 => ?_)
          obtain ⟨o_52, eu_50⟩ : ∃ z, z = u_50 := ⟨_, rfl⟩; subst eu_50
          have e_53 : o_52 = f_X10_logs_o1 f_41 3 0 := h_51
          have mo_52 : mI o_52 := by rw [e_53]; exact mI_l mf_41
          refine sw_eq (ws' := [(h0, .inr (10, [.ref b0, .ref b1, .int np, .int th, .long hh])), (b0, .inl (G.2.1.2, 344, .inr (.inl o_52))), (b1, .inl (G.2.1.2, 1032, .inr (.inl P)))]) (lv' := [(0, .ref h0)]) (st' := []) rfl rfl rfl ?_
          refine sw_aload_n (pc := 78) F dX10_ranges_78 rfl 0 rfl ?_
          refine sw_get (pc := 79) (Cn := RX10) (T := TX10) (N := 5) (ci := 10) (v := .ref b0) F in10 0 rfl rfl 0 (by decide) rfl (List.mem_of_getElem? (i := 1) rfl) rfl dX10_ranges_79 ?_
          refine sw_bipush (pc := 82) (v := 39) F dX10_ranges_82 rfl ?_
          refine sw_aload_n (pc := 84) F dX10_ranges_84 rfl 0 rfl ?_
          refine sw_get (pc := 85) (Cn := RX10) (T := TX10) (N := 5) (ci := 10) (v := .ref b0) F in10 0 rfl rfl 0 (by decide) rfl (List.mem_of_getElem? (i := 1) rfl) rfl dX10_ranges_85 ?_
          refine sw_bipush (pc := 88) (v := 38) F dX10_ranges_88 rfl ?_
          refine sw_lald (pc := 90) F 1 rfl (sw_in rfl) dX10_ranges_90 ?_
          refine sw_naml (e := o_52 38) rfl (fun x_54 ex_54 => ?_)
          refine sw_ldc2 (pc := 91) (v := 10) F (List.mem_of_getElem? (i := 3) rfl) dX10_ranges_91 ?_
          refine sw_lcmp_le (pc := 94) (tgt := 102) F dX10_ranges_94 dX10_ranges_95 (by decide) (fun c_55 => ?_) (fun c_55 => ?_)
          · skip
            refine sw_aload_n (pc := 102) F dX10_ranges_102 rfl 0 rfl ?_
            refine sw_get (pc := 103) (Cn := RX10) (T := TX10) (N := 5) (ci := 10) (v := .ref b0) F in10 0 rfl rfl 0 (by decide) rfl (List.mem_of_getElem? (i := 1) rfl) rfl dX10_ranges_103 ?_
            refine sw_bipush (pc := 106) (v := 39) F dX10_ranges_106 rfl ?_
            refine sw_lald (pc := 108) F 1 rfl (sw_in rfl) dX10_ranges_108 ?_
            refine sw_naml (e := o_52 39) rfl (fun x_56 ex_56 => ?_)
            obtain ⟨f_57, ef_57⟩ : ∃ y : Nat → Int64, y = vp_updL o_52 39 x_56 := ⟨_, rfl⟩
            refine sw_last (pc := 109) (ws' := [(h0, .inr (10, [.ref b0, .ref b1, .int np, .int th, .long hh])), (b0, .inl (G.2.1.2, 344, .inr (.inl f_57))), (b1, .inl (G.2.1.2, 1032, .inr (.inl P)))]) F 1 rfl (sw_in rfl) dX10_ranges_109 (by rw [ef_57]; rfl) ?_
            have mf_57 : mI f_57 := by rw [ef_57]; exact mI_u mo_52 (by decide)
            refine sw_goto (pc := 110) (tgt := 156) F dX10_ranges_110 (by decide) ?_
            subst ef_57
            subst ex_56
            subst ex_54
            subst e_53
            subst ex_42
            subst ef_41
            subst ex_40
            subst ex_39
            subst e_29
            subst e_16
            exact sw_vret (pc := 156) F T ((vp_updL (f_X10_logs_o1 (vp_updL S1 38 ((S1 38) + 1)) 3 0) 39 ((f_X10_logs_o1 (vp_updL S1 38 ((S1 38) + 1)) 3 0) 39))) (by rw [← hS1]; unfold g_X10_ranges_1; rw [if_neg c_17, if_neg c_30, if_pos c_43, if_pos c_55]) rfl dX10_ranges_156
          · skip
            refine sw_lconst (pc := 98) (v := 0) F dX10_ranges_98 rfl ?_
            refine sw_goto (pc := 99) (tgt := 109) F dX10_ranges_99 (by decide) ?_
            obtain ⟨f_58, ef_58⟩ : ∃ y : Nat → Int64, y = vp_updL o_52 39 0 := ⟨_, rfl⟩
            refine sw_last (pc := 109) (ws' := [(h0, .inr (10, [.ref b0, .ref b1, .int np, .int th, .long hh])), (b0, .inl (G.2.1.2, 344, .inr (.inl f_58))), (b1, .inl (G.2.1.2, 1032, .inr (.inl P)))]) F 1 rfl (sw_in rfl) dX10_ranges_109 (by rw [ef_58]; rfl) ?_
            have mf_58 : mI f_58 := by rw [ef_58]; exact mI_u mo_52 (by decide)
            refine sw_goto (pc := 110) (tgt := 156) F dX10_ranges_110 (by decide) ?_
            subst ef_58
            subst ex_54
            subst e_53
            subst ex_42
            subst ef_41
            subst ex_40
            subst ex_39
            subst e_29
            subst e_16
            exact sw_vret (pc := 156) F T ((vp_updL (f_X10_logs_o1 (vp_updL S1 38 ((S1 38) + 1)) 3 0) 39 0)) (by rw [← hS1]; unfold g_X10_ranges_1; rw [if_neg c_17, if_neg c_30, if_pos c_43, if_neg c_55]) rfl dX10_ranges_156
  refine sw_aload_n (pc := 0) F dX10_ranges_0 rfl 0 rfl ?_
  refine sw_calll (pc := 1) (wr := []) (k' := 0) (n' := 0) F (sw_runV (R := ({ frames := 2, cells := 0, slots := 0, locals := 48 } : Room)) (q0 := 0) (na := 0) F T.2.1 T.2.2.1 (k_X10_chosen l G h0 b0 b1 np th hh S P) [0, 1, 2] rfl (by decide) gX10_ranges_X10_chosen rfl rfl rfl (by decide +kernel) ⟨Nat.le_of_ble_eq_true rfl, Nat.le_of_ble_eq_true rfl⟩ rfl rfl rfl rfl rfl (Nat.le_of_ble_eq_true rfl) dX10_ranges_1 (Nat.le_of_ble_eq_true rfl) (Nat.le_of_ble_eq_true rfl)) [0, 1, 2] [] rfl rfl (by decide) (by decide) rfl rfl (fun r_1 u_2 h_3 => ?_)
  have e_4 : r_1 = f_X10_chosen_r S := h_3
  refine sw_eq (ws' := [(h0, .inr (10, [.ref b0, .ref b1, .int np, .int th, .long hh])), (b0, .inl (G.2.1.2, 344, .inr (.inl S))), (b1, .inl (G.2.1.2, 1032, .inr (.inl P)))]) (lv' := [(0, .ref h0)]) (st' := [.long r_1]) rfl rfl rfl ?_
  refine sw_lstore_n (pc := 4) (lv' := [(1, .long r_1), (0, .ref h0)]) F T.1 dX10_ranges_4 rfl (by decide) rfl ?_
  refine sw_lload_n (pc := 5) F dX10_ranges_5 rfl 0 rfl ?_
  refine sw_aload_n (pc := 6) F dX10_ranges_6 rfl 1 rfl ?_
  refine sw_get (pc := 7) (Cn := RX10) (T := TX10) (N := 5) (ci := 10) (v := .ref b0) F in10 0 rfl rfl 0 (by decide) rfl (List.mem_of_getElem? (i := 1) rfl) rfl dX10_ranges_7 ?_
  refine sw_bipush (pc := 10) (v := 37) F dX10_ranges_10 rfl ?_
  refine sw_lald (pc := 12) F 1 rfl (sw_in rfl) dX10_ranges_12 ?_
  refine sw_naml (e := S 37) rfl (fun x_5 ex_5 => ?_)
  refine sw_lcmp_eq (pc := 13) (tgt := 31) F dX10_ranges_13 dX10_ranges_14 (by decide) (fun c_6 => ?_) (fun c_6 => ?_)
  · skip
    refine sw_lvs (is := [1]) (lv' := [(0, .ref h0)]) rfl ?_
    subst ex_5
    subst e_4
    exact J1 _ (by unfold g_X10_ranges_0; rw [if_pos c_6]) hm hr
  · skip
    refine sw_aload_n (pc := 17) F dX10_ranges_17 rfl 1 rfl ?_
    refine sw_get (pc := 18) (Cn := RX10) (T := TX10) (N := 5) (ci := 10) (v := .ref b0) F in10 0 rfl rfl 0 (by decide) rfl (List.mem_of_getElem? (i := 1) rfl) rfl dX10_ranges_18 ?_
    refine sw_bipush (pc := 21) (v := 37) F dX10_ranges_21 rfl ?_
    refine sw_lload_n (pc := 23) F dX10_ranges_23 rfl 0 rfl ?_
    obtain ⟨f_7, ef_7⟩ : ∃ y : Nat → Int64, y = vp_updL S 37 r_1 := ⟨_, rfl⟩
    refine sw_last (pc := 24) (ws' := [(h0, .inr (10, [.ref b0, .ref b1, .int np, .int th, .long hh])), (b0, .inl (G.2.1.2, 344, .inr (.inl f_7))), (b1, .inl (G.2.1.2, 1032, .inr (.inl P)))]) F 1 rfl (sw_in rfl) dX10_ranges_24 (by rw [ef_7]; rfl) ?_
    have mf_7 : mI f_7 := by rw [ef_7]; exact mI_u hm (by decide)
    refine sw_aload_n (pc := 25) F dX10_ranges_25 rfl 1 rfl ?_
    refine sw_iconst (pc := 26) (v := 2) F dX10_ranges_26 rfl ?_
    refine sw_lload_n (pc := 27) F dX10_ranges_27 rfl 0 rfl ?_
    refine sw_callv (pc := 28) (wr := []) (k' := 0) (n' := 0) F (sw_runV (R := ({ frames := 2, cells := 0, slots := 0, locals := 48 } : Room)) (q0 := 0) (na := 2) F T.2.1 T.2.2.1 (k_X10_logs l G h0 b0 b1 np th hh f_7 P 2 r_1 (mf_7).1) [0, 1, 2] rfl (by decide) gX10_ranges_X10_logs rfl rfl rfl (by decide +kernel) ⟨Nat.le_of_ble_eq_true rfl, Nat.le_of_ble_eq_true rfl⟩ rfl rfl rfl rfl rfl (Nat.le_of_ble_eq_true rfl) dX10_ranges_28 (Nat.le_of_ble_eq_true rfl) (Nat.le_of_ble_eq_true rfl)) [0, 1, 2] [] rfl rfl (by decide) (by decide) rfl rfl (fun u_9 h_10 => ?_)
    obtain ⟨o_11, eu_9⟩ : ∃ z, z = u_9 := ⟨_, rfl⟩; subst eu_9
    have e_12 : o_11 = f_X10_logs_o1 f_7 2 r_1 := h_10
    have mo_11 : mI o_11 := by rw [e_12]; exact mI_l mf_7
    refine sw_eq (ws' := [(h0, .inr (10, [.ref b0, .ref b1, .int np, .int th, .long hh])), (b0, .inl (G.2.1.2, 344, .inr (.inl o_11))), (b1, .inl (G.2.1.2, 1032, .inr (.inl P)))]) (lv' := [(1, .long r_1), (0, .ref h0)]) (st' := []) rfl rfl rfl ?_
    refine sw_lvs (is := [1]) (lv' := [(0, .ref h0)]) rfl ?_
    subst e_12
    subst ef_7
    subst ex_5
    subst e_4
    exact J1 _ (by unfold g_X10_ranges_0; rw [if_neg c_6]) mo_11 (by rw [logs_lo (by decide), pk_uLs]; exact chosen_01 hr)
noncomputable def f_X10_flowBy_r (S : Nat → Int64) (a : Int64) (b : Int64) (c : Int64) : Int64 := if (S 1) = 1 then (if b ≤ 1 then (if (1000 - ((300 * a) / 100)) ≤ 700 then ((((((((S 2) * (isq ((100 * a) * (f_X10_densityAt_r S b c)))) / 10000) * 700) / 1000) * (f_X10_factorAt_r S (((((S 2) * (isq ((100 * a) * (f_X10_densityAt_r S b c)))) / 10000) * 700) / 1000))) / 10000)) else ((((((((S 2) * (isq ((100 * a) * (f_X10_densityAt_r S b c)))) / 10000) * (1000 - ((300 * a) / 100))) / 1000) * (f_X10_factorAt_r S (((((S 2) * (isq ((100 * a) * (f_X10_densityAt_r S b c)))) / 10000) * (1000 - ((300 * a) / 100))) / 1000))) / 10000))) else (if (1000 - ((300 * a) / (100 * b))) ≤ 700 then ((((((((S 2) * (isq ((100 * a) * (f_X10_densityAt_r S b c)))) / 10000) * 700) / 1000) * (f_X10_factorAt_r S (((((S 2) * (isq ((100 * a) * (f_X10_densityAt_r S b c)))) / 10000) * 700) / 1000))) / 10000)) else ((((((((S 2) * (isq ((100 * a) * (f_X10_densityAt_r S b c)))) / 10000) * (1000 - ((300 * a) / (100 * b)))) / 1000) * (f_X10_factorAt_r S (((((S 2) * (isq ((100 * a) * (f_X10_densityAt_r S b c)))) / 10000) * (1000 - ((300 * a) / (100 * b)))) / 1000))) / 10000)))) else ((((((S 2) * (isq ((100 * a) * (f_X10_densityAt_r S b c)))) / 10000) * (f_X10_factorAt_r S (((S 2) * (isq ((100 * a) * (f_X10_densityAt_r S b c)))) / 10000))) / 10000))
set_option maxHeartbeats 4000000 in
set_option maxRecDepth 100000 in
theorem k_X10_flowBy (l : Launch) (G : sw_E) (h0 : Nat) (b0 : Nat) (b1 : Nat) (np : Int32) (th : Int32) (hh : Int64) (S : Nat → Int64) (P : Nat → Int64) (a : Int64) (b : Int64) (c : Int64) (hK : 0 ≤ (S 2).toInt ∧ (S 2).toInt ≤ 100000) (hs0 : 0 ≤ ((100 * a) * (f_X10_densityAt_r S b c)).toInt) (hs1 : ((100 * a) * (f_X10_densityAt_r S b c)).toInt < 70368744177664) (hda : 0 ≤ a.toInt ∧ a.toInt ≤ 30000) (hpb : b.toInt ≤ 1000000) (hbd : -1000000 ≤ c.toInt ∧ c.toInt ≤ 1000000) : sw_M l G yX10_flowBy wsX10_flowBy ({ frames := 2, cells := 0, slots := 0, locals := 51 } : Room) [.ref h0, .long a, .long b, .long c] [(h0, .inr (10, [.ref b0, .ref b1, .int np, .int th, .long hh])), (b0, .inl (G.2.1.2, 344, .inr (.inl S))), (b1, .inl (G.2.1.2, 1032, .inr (.inl P)))] (sw_QL G (S := Unit) (fun (r : Int64) (_ : Unit) => r = f_X10_flowBy_r S a b c) (fun _ => [(h0, .inr (10, [.ref b0, .ref b1, .int np, .int th, .long hh])), (b0, .inl (G.2.1.2, 344, .inr (.inl S))), (b1, .inl (G.2.1.2, 1032, .inr (.inl P)))])) 0 0 := by
  refine sw_start (cc := cX10_flowBy) (maxL := 11) (ret := some .long) (lv := [(0, .ref h0), (1, .long a), (3, .long b), (5, .long c)]) (own := RX10) (nm := "flowBy") (by decide +kernel) rfl rfl rfl rfl (Nat.le_of_ble_eq_true rfl) (fun C F T => ?_)
  have in10 : ∀ w ∈ u_ws RX10 TX10 5, w ∈ wsX10_flowBy := fun w h => List.mem_cons_of_mem _ (List.mem_append_right _ (h))
  refine sw_aload_n (pc := 0) F dX10_flowBy_0 rfl 0 rfl ?_
  refine sw_get (pc := 1) (Cn := RX10) (T := TX10) (N := 5) (ci := 10) (v := .ref b0) F in10 0 rfl rfl 0 (by decide) rfl (List.mem_of_getElem? (i := 1) rfl) rfl dX10_flowBy_1 ?_
  refine sw_iconst (pc := 4) (v := 2) F dX10_flowBy_4 rfl ?_
  refine sw_lald (pc := 5) F 1 rfl (sw_in rfl) dX10_flowBy_5 ?_
  refine sw_naml (e := S 2) rfl (fun x_1 ex_1 => ?_)
  refine sw_ldc2 (pc := 6) (v := 100) F (List.mem_of_getElem? (i := 2) rfl) dX10_flowBy_6 ?_
  refine sw_lload_n (pc := 9) F dX10_flowBy_9 rfl 1 rfl ?_
  refine sw_lmul (pc := 10) F dX10_flowBy_10 ?_
  refine sw_topl (fun x_2 ex_2 => ?_)
  refine sw_aload_n (pc := 11) F dX10_flowBy_11 rfl 0 rfl ?_
  refine sw_lload_n (pc := 12) F dX10_flowBy_12 rfl 2 rfl ?_
  refine sw_lload (pc := 13) F dX10_flowBy_13 3 rfl ?_
  refine sw_calll (pc := 15) (wr := []) (k' := 0) (n' := 0) F (sw_runV (R := ({ frames := 2, cells := 0, slots := 0, locals := 51 } : Room)) (q0 := 0) (na := 2) F T.2.1 T.2.2.1 (k_X10_densityAt l G h0 b0 b1 np th hh S P b c hbd) [0, 1, 2] rfl (by decide) gX10_flowBy_X10_densityAt rfl rfl rfl (by decide +kernel) ⟨Nat.le_of_ble_eq_true rfl, Nat.le_of_ble_eq_true rfl⟩ rfl rfl rfl rfl rfl (Nat.le_of_ble_eq_true rfl) dX10_flowBy_15 (Nat.le_of_ble_eq_true rfl) (Nat.le_of_ble_eq_true rfl)) [0, 1, 2] [] rfl rfl (by decide) (by decide) rfl rfl (fun r_3 u_4 h_5 => ?_)
  have e_6 : r_3 = f_X10_densityAt_r S b c := h_5
  refine sw_eq (ws' := [(h0, .inr (10, [.ref b0, .ref b1, .int np, .int th, .long hh])), (b0, .inl (G.2.1.2, 344, .inr (.inl S))), (b1, .inl (G.2.1.2, 1032, .inr (.inl P)))]) (lv' := [(0, .ref h0), (1, .long a), (3, .long b), (5, .long c)]) (st' := [.long r_3, .long x_2, .long x_1]) rfl rfl rfl ?_
  refine sw_lmul (pc := 18) F dX10_flowBy_18 ?_
  refine sw_topl (fun x_7 ex_7 => ?_)
  refine sw_calll (pc := 19) (wr := [(h0, .inr (10, [.ref b0, .ref b1, .int np, .int th, .long hh])), (b0, .inl (G.2.1.2, 344, .inr (.inl S))), (b1, .inl (G.2.1.2, 1032, .inr (.inl P)))]) (k' := 0) (n' := 0) F (sw_runS (R := ({ frames := 2, cells := 0, slots := 0, locals := 51 } : Room)) (na := 1) F T.2.1 T.2.2.1 (k_X10_root l G x_7 (by subst_vars; exact hs0)) [] rfl (by decide) gX10_flowBy_X10_root rfl rfl rfl (by decide +kernel) ⟨Nat.le_of_ble_eq_true rfl, Nat.le_of_ble_eq_true rfl⟩ rfl rfl (Nat.le_of_ble_eq_true rfl) dX10_flowBy_19 (Nat.le_of_ble_eq_true rfl) (Nat.le_of_ble_eq_true rfl)) [] [0, 1, 2] rfl rfl (by decide) (by decide) rfl rfl (fun r_8 u_9 h_10 => ?_)
  have e_11 : r_8 = isq x_7 := h_10
  refine sw_eq (ws' := [(h0, .inr (10, [.ref b0, .ref b1, .int np, .int th, .long hh])), (b0, .inl (G.2.1.2, 344, .inr (.inl S))), (b1, .inl (G.2.1.2, 1032, .inr (.inl P)))]) (lv' := [(0, .ref h0), (1, .long a), (3, .long b), (5, .long c)]) (st' := [.long r_8, .long x_1]) rfl rfl rfl ?_
  refine sw_lmul (pc := 22) F dX10_flowBy_22 ?_
  refine sw_topl (fun x_12 ex_12 => ?_)
  refine sw_ldc2 (pc := 23) (v := 10000) F (List.mem_of_getElem? (i := 3) rfl) dX10_flowBy_23 ?_
  refine sw_ldiv (pc := 26) F dX10_flowBy_26 (by decide) ?_
  refine sw_topl (fun x_13 ex_13 => ?_)
  refine sw_lstore (pc := 27) (lv' := [(7, .long x_13), (0, .ref h0), (1, .long a), (3, .long b), (5, .long c)]) F T.1 dX10_flowBy_27 (by decide) rfl ?_
  refine sw_aload_n (pc := 29) F dX10_flowBy_29 rfl 1 rfl ?_
  refine sw_get (pc := 30) (Cn := RX10) (T := TX10) (N := 5) (ci := 10) (v := .ref b0) F in10 0 rfl rfl 0 (by decide) rfl (List.mem_of_getElem? (i := 1) rfl) rfl dX10_flowBy_30 ?_
  refine sw_iconst (pc := 33) (v := 1) F dX10_flowBy_33 rfl ?_
  refine sw_lald (pc := 34) F 1 rfl (sw_in rfl) dX10_flowBy_34 ?_
  refine sw_naml (e := S 1) rfl (fun x_14 ex_14 => ?_)
  refine sw_lconst (pc := 35) (v := 1) F dX10_flowBy_35 rfl ?_
  refine sw_lcmp_ne (pc := 36) (tgt := 93) F dX10_flowBy_36 dX10_flowBy_37 (by decide) (fun c_15 => ?_) (fun c_15 => ?_)
  · skip
    refine sw_lload (pc := 93) F dX10_flowBy_93 0 rfl ?_
    refine sw_aload_n (pc := 95) F dX10_flowBy_95 rfl 1 rfl ?_
    refine sw_lload (pc := 96) F dX10_flowBy_96 0 rfl ?_
    refine sw_calll (pc := 98) (wr := []) (k' := 0) (n' := 0) F (sw_runV (R := ({ frames := 2, cells := 0, slots := 0, locals := 51 } : Room)) (q0 := 0) (na := 1) F T.2.1 T.2.2.1 (k_X10_factorAt l G h0 b0 b1 np th hh S P x_13 (by subst_vars; exact fb_q0 hK hs0 hs1)) [0, 1, 2] rfl (by decide) gX10_flowBy_X10_factorAt rfl rfl rfl (by decide +kernel) ⟨Nat.le_of_ble_eq_true rfl, Nat.le_of_ble_eq_true rfl⟩ rfl rfl rfl rfl rfl (Nat.le_of_ble_eq_true rfl) dX10_flowBy_98 (Nat.le_of_ble_eq_true rfl) (Nat.le_of_ble_eq_true rfl)) [0, 1, 2] [] rfl rfl (by decide) (by decide) rfl rfl (fun r_16 u_17 h_18 => ?_)
    have e_19 : r_16 = f_X10_factorAt_r S x_13 := h_18
    refine sw_eq (ws' := [(h0, .inr (10, [.ref b0, .ref b1, .int np, .int th, .long hh])), (b0, .inl (G.2.1.2, 344, .inr (.inl S))), (b1, .inl (G.2.1.2, 1032, .inr (.inl P)))]) (lv' := [(7, .long x_13), (0, .ref h0), (1, .long a), (3, .long b), (5, .long c)]) (st' := [.long r_16, .long x_13]) rfl rfl rfl ?_
    refine sw_lmul (pc := 101) F dX10_flowBy_101 ?_
    refine sw_topl (fun x_20 ex_20 => ?_)
    refine sw_ldc2 (pc := 102) (v := 10000) F (List.mem_of_getElem? (i := 3) rfl) dX10_flowBy_102 ?_
    refine sw_ldiv (pc := 105) F dX10_flowBy_105 (by decide) ?_
    refine sw_topl (fun x_21 ex_21 => ?_)
    subst ex_21
    subst ex_20
    subst e_19
    subst ex_14
    subst ex_13
    subst ex_12
    subst e_11
    subst ex_7
    subst e_6
    subst ex_2
    subst ex_1
    exact sw_lret (pc := 106) F T () (by unfold f_X10_flowBy_r; rw [if_neg c_15]) rfl dX10_flowBy_106
  · skip
    refine sw_ldc2 (pc := 40) (v := 1000) F (List.mem_of_getElem? (i := 4) rfl) dX10_flowBy_40 ?_
    refine sw_ldc2 (pc := 43) (v := 300) F (List.mem_of_getElem? (i := 5) rfl) dX10_flowBy_43 ?_
    refine sw_lload_n (pc := 46) F dX10_flowBy_46 rfl 2 rfl ?_
    refine sw_lmul (pc := 47) F dX10_flowBy_47 ?_
    refine sw_topl (fun x_22 ex_22 => ?_)
    refine sw_ldc2 (pc := 48) (v := 100) F (List.mem_of_getElem? (i := 2) rfl) dX10_flowBy_48 ?_
    refine sw_lload_n (pc := 51) F dX10_flowBy_51 rfl 3 rfl ?_
    refine sw_lconst (pc := 52) (v := 1) F dX10_flowBy_52 rfl ?_
    refine sw_lcmp_le (pc := 53) (tgt := 61) F dX10_flowBy_53 dX10_flowBy_54 (by decide) (fun c_23 => ?_) (fun c_23 => ?_)
    · skip
      refine sw_lconst (pc := 61) (v := 1) F dX10_flowBy_61 rfl ?_
      refine sw_lmul (pc := 62) F dX10_flowBy_62 ?_
      refine sw_eqt (v := .long 100) (by rfl) ?_
      refine sw_ldiv (pc := 63) F dX10_flowBy_63 (by decide) ?_
      refine sw_topl (fun x_24 ex_24 => ?_)
      refine sw_lsub (pc := 64) F dX10_flowBy_64 ?_
      refine sw_topl (fun x_25 ex_25 => ?_)
      refine sw_lstore (pc := 65) (lv' := [(9, .long x_25), (7, .long x_13), (0, .ref h0), (1, .long a), (3, .long b), (5, .long c)]) F T.1 dX10_flowBy_65 (by decide) rfl ?_
      refine sw_lload (pc := 67) F dX10_flowBy_67 1 rfl ?_
      refine sw_lload (pc := 69) F dX10_flowBy_69 0 rfl ?_
      refine sw_ldc2 (pc := 71) (v := 700) F (List.mem_of_getElem? (i := 6) rfl) dX10_flowBy_71 ?_
      refine sw_lcmp_le (pc := 74) (tgt := 83) F dX10_flowBy_74 dX10_flowBy_75 (by decide) (fun c_26 => ?_) (fun c_26 => ?_)
      · skip
        refine sw_ldc2 (pc := 83) (v := 700) F (List.mem_of_getElem? (i := 6) rfl) dX10_flowBy_83 ?_
        refine sw_lmul (pc := 86) F dX10_flowBy_86 ?_
        refine sw_topl (fun x_27 ex_27 => ?_)
        refine sw_ldc2 (pc := 87) (v := 1000) F (List.mem_of_getElem? (i := 4) rfl) dX10_flowBy_87 ?_
        refine sw_ldiv (pc := 90) F dX10_flowBy_90 (by decide) ?_
        refine sw_topl (fun x_28 ex_28 => ?_)
        refine sw_lstore (pc := 91) (lv' := [(7, .long x_28), (9, .long x_25), (0, .ref h0), (1, .long a), (3, .long b), (5, .long c)]) F T.1 dX10_flowBy_91 (by decide) rfl ?_
        refine sw_lload (pc := 93) F dX10_flowBy_93 0 rfl ?_
        refine sw_aload_n (pc := 95) F dX10_flowBy_95 rfl 2 rfl ?_
        refine sw_lload (pc := 96) F dX10_flowBy_96 0 rfl ?_
        refine sw_calll (pc := 98) (wr := []) (k' := 0) (n' := 0) F (sw_runV (R := ({ frames := 2, cells := 0, slots := 0, locals := 51 } : Room)) (q0 := 0) (na := 1) F T.2.1 T.2.2.1 (k_X10_factorAt l G h0 b0 b1 np th hh S P x_28 (by subst_vars; exact fb_q17 hK hs0 hs1 hda )) [0, 1, 2] rfl (by decide) gX10_flowBy_X10_factorAt rfl rfl rfl (by decide +kernel) ⟨Nat.le_of_ble_eq_true rfl, Nat.le_of_ble_eq_true rfl⟩ rfl rfl rfl rfl rfl (Nat.le_of_ble_eq_true rfl) dX10_flowBy_98 (Nat.le_of_ble_eq_true rfl) (Nat.le_of_ble_eq_true rfl)) [0, 1, 2] [] rfl rfl (by decide) (by decide) rfl rfl (fun r_29 u_30 h_31 => ?_)
        have e_32 : r_29 = f_X10_factorAt_r S x_28 := h_31
        refine sw_eq (ws' := [(h0, .inr (10, [.ref b0, .ref b1, .int np, .int th, .long hh])), (b0, .inl (G.2.1.2, 344, .inr (.inl S))), (b1, .inl (G.2.1.2, 1032, .inr (.inl P)))]) (lv' := [(7, .long x_28), (9, .long x_25), (0, .ref h0), (1, .long a), (3, .long b), (5, .long c)]) (st' := [.long r_29, .long x_28]) rfl rfl rfl ?_
        refine sw_lmul (pc := 101) F dX10_flowBy_101 ?_
        refine sw_topl (fun x_33 ex_33 => ?_)
        refine sw_ldc2 (pc := 102) (v := 10000) F (List.mem_of_getElem? (i := 3) rfl) dX10_flowBy_102 ?_
        refine sw_ldiv (pc := 105) F dX10_flowBy_105 (by decide) ?_
        refine sw_topl (fun x_34 ex_34 => ?_)
        subst ex_34
        subst ex_33
        subst e_32
        subst ex_28
        subst ex_27
        subst ex_25
        subst ex_24
        subst ex_22
        subst ex_14
        subst ex_13
        subst ex_12
        subst e_11
        subst ex_7
        subst e_6
        subst ex_2
        subst ex_1
        exact sw_lret (pc := 106) F T () (by unfold f_X10_flowBy_r; rw [if_pos c_15, if_pos c_23, if_pos c_26]) rfl dX10_flowBy_106
      · skip
        refine sw_lload (pc := 78) F dX10_flowBy_78 0 rfl ?_
        refine sw_goto (pc := 80) (tgt := 86) F dX10_flowBy_80 (by decide) ?_
        refine sw_lmul (pc := 86) F dX10_flowBy_86 ?_
        refine sw_topl (fun x_35 ex_35 => ?_)
        refine sw_ldc2 (pc := 87) (v := 1000) F (List.mem_of_getElem? (i := 4) rfl) dX10_flowBy_87 ?_
        refine sw_ldiv (pc := 90) F dX10_flowBy_90 (by decide) ?_
        refine sw_topl (fun x_36 ex_36 => ?_)
        refine sw_lstore (pc := 91) (lv' := [(7, .long x_36), (9, .long x_25), (0, .ref h0), (1, .long a), (3, .long b), (5, .long c)]) F T.1 dX10_flowBy_91 (by decide) rfl ?_
        refine sw_lload (pc := 93) F dX10_flowBy_93 0 rfl ?_
        refine sw_aload_n (pc := 95) F dX10_flowBy_95 rfl 2 rfl ?_
        refine sw_lload (pc := 96) F dX10_flowBy_96 0 rfl ?_
        refine sw_calll (pc := 98) (wr := []) (k' := 0) (n' := 0) F (sw_runV (R := ({ frames := 2, cells := 0, slots := 0, locals := 51 } : Room)) (q0 := 0) (na := 1) F T.2.1 T.2.2.1 (k_X10_factorAt l G h0 b0 b1 np th hh S P x_36 (by subst_vars; exact fb_q1y hK hs0 hs1 hda c_26)) [0, 1, 2] rfl (by decide) gX10_flowBy_X10_factorAt rfl rfl rfl (by decide +kernel) ⟨Nat.le_of_ble_eq_true rfl, Nat.le_of_ble_eq_true rfl⟩ rfl rfl rfl rfl rfl (Nat.le_of_ble_eq_true rfl) dX10_flowBy_98 (Nat.le_of_ble_eq_true rfl) (Nat.le_of_ble_eq_true rfl)) [0, 1, 2] [] rfl rfl (by decide) (by decide) rfl rfl (fun r_37 u_38 h_39 => ?_)
        have e_40 : r_37 = f_X10_factorAt_r S x_36 := h_39
        refine sw_eq (ws' := [(h0, .inr (10, [.ref b0, .ref b1, .int np, .int th, .long hh])), (b0, .inl (G.2.1.2, 344, .inr (.inl S))), (b1, .inl (G.2.1.2, 1032, .inr (.inl P)))]) (lv' := [(7, .long x_36), (9, .long x_25), (0, .ref h0), (1, .long a), (3, .long b), (5, .long c)]) (st' := [.long r_37, .long x_36]) rfl rfl rfl ?_
        refine sw_lmul (pc := 101) F dX10_flowBy_101 ?_
        refine sw_topl (fun x_41 ex_41 => ?_)
        refine sw_ldc2 (pc := 102) (v := 10000) F (List.mem_of_getElem? (i := 3) rfl) dX10_flowBy_102 ?_
        refine sw_ldiv (pc := 105) F dX10_flowBy_105 (by decide) ?_
        refine sw_topl (fun x_42 ex_42 => ?_)
        subst ex_42
        subst ex_41
        subst e_40
        subst ex_36
        subst ex_35
        subst ex_25
        subst ex_24
        subst ex_22
        subst ex_14
        subst ex_13
        subst ex_12
        subst e_11
        subst ex_7
        subst e_6
        subst ex_2
        subst ex_1
        exact sw_lret (pc := 106) F T () (by unfold f_X10_flowBy_r; rw [if_pos c_15, if_pos c_23, if_neg c_26]) rfl dX10_flowBy_106
    · skip
      refine sw_lload_n (pc := 57) F dX10_flowBy_57 rfl 3 rfl ?_
      refine sw_goto (pc := 58) (tgt := 62) F dX10_flowBy_58 (by decide) ?_
      refine sw_lmul (pc := 62) F dX10_flowBy_62 ?_
      refine sw_topl (fun x_43 ex_43 => ?_)
      refine sw_ldiv (pc := 63) F dX10_flowBy_63 (by subst_vars; exact fb_nz hpb c_23) ?_
      refine sw_topl (fun x_44 ex_44 => ?_)
      refine sw_lsub (pc := 64) F dX10_flowBy_64 ?_
      refine sw_topl (fun x_45 ex_45 => ?_)
      refine sw_lstore (pc := 65) (lv' := [(9, .long x_45), (7, .long x_13), (0, .ref h0), (1, .long a), (3, .long b), (5, .long c)]) F T.1 dX10_flowBy_65 (by decide) rfl ?_
      refine sw_lload (pc := 67) F dX10_flowBy_67 1 rfl ?_
      refine sw_lload (pc := 69) F dX10_flowBy_69 0 rfl ?_
      refine sw_ldc2 (pc := 71) (v := 700) F (List.mem_of_getElem? (i := 6) rfl) dX10_flowBy_71 ?_
      refine sw_lcmp_le (pc := 74) (tgt := 83) F dX10_flowBy_74 dX10_flowBy_75 (by decide) (fun c_46 => ?_) (fun c_46 => ?_)
      · skip
        refine sw_ldc2 (pc := 83) (v := 700) F (List.mem_of_getElem? (i := 6) rfl) dX10_flowBy_83 ?_
        refine sw_lmul (pc := 86) F dX10_flowBy_86 ?_
        refine sw_topl (fun x_47 ex_47 => ?_)
        refine sw_ldc2 (pc := 87) (v := 1000) F (List.mem_of_getElem? (i := 4) rfl) dX10_flowBy_87 ?_
        refine sw_ldiv (pc := 90) F dX10_flowBy_90 (by decide) ?_
        refine sw_topl (fun x_48 ex_48 => ?_)
        refine sw_lstore (pc := 91) (lv' := [(7, .long x_48), (9, .long x_45), (0, .ref h0), (1, .long a), (3, .long b), (5, .long c)]) F T.1 dX10_flowBy_91 (by decide) rfl ?_
        refine sw_lload (pc := 93) F dX10_flowBy_93 0 rfl ?_
        refine sw_aload_n (pc := 95) F dX10_flowBy_95 rfl 2 rfl ?_
        refine sw_lload (pc := 96) F dX10_flowBy_96 0 rfl ?_
        refine sw_calll (pc := 98) (wr := []) (k' := 0) (n' := 0) F (sw_runV (R := ({ frames := 2, cells := 0, slots := 0, locals := 51 } : Room)) (q0 := 0) (na := 1) F T.2.1 T.2.2.1 (k_X10_factorAt l G h0 b0 b1 np th hh S P x_48 (by subst_vars; exact fb_qh7 hK hs0 hs1 hda hpb c_23 )) [0, 1, 2] rfl (by decide) gX10_flowBy_X10_factorAt rfl rfl rfl (by decide +kernel) ⟨Nat.le_of_ble_eq_true rfl, Nat.le_of_ble_eq_true rfl⟩ rfl rfl rfl rfl rfl (Nat.le_of_ble_eq_true rfl) dX10_flowBy_98 (Nat.le_of_ble_eq_true rfl) (Nat.le_of_ble_eq_true rfl)) [0, 1, 2] [] rfl rfl (by decide) (by decide) rfl rfl (fun r_49 u_50 h_51 => ?_)
        have e_52 : r_49 = f_X10_factorAt_r S x_48 := h_51
        refine sw_eq (ws' := [(h0, .inr (10, [.ref b0, .ref b1, .int np, .int th, .long hh])), (b0, .inl (G.2.1.2, 344, .inr (.inl S))), (b1, .inl (G.2.1.2, 1032, .inr (.inl P)))]) (lv' := [(7, .long x_48), (9, .long x_45), (0, .ref h0), (1, .long a), (3, .long b), (5, .long c)]) (st' := [.long r_49, .long x_48]) rfl rfl rfl ?_
        refine sw_lmul (pc := 101) F dX10_flowBy_101 ?_
        refine sw_topl (fun x_53 ex_53 => ?_)
        refine sw_ldc2 (pc := 102) (v := 10000) F (List.mem_of_getElem? (i := 3) rfl) dX10_flowBy_102 ?_
        refine sw_ldiv (pc := 105) F dX10_flowBy_105 (by decide) ?_
        refine sw_topl (fun x_54 ex_54 => ?_)
        subst ex_54
        subst ex_53
        subst e_52
        subst ex_48
        subst ex_47
        subst ex_45
        subst ex_44
        subst ex_43
        subst ex_22
        subst ex_14
        subst ex_13
        subst ex_12
        subst e_11
        subst ex_7
        subst e_6
        subst ex_2
        subst ex_1
        exact sw_lret (pc := 106) F T () (by unfold f_X10_flowBy_r; rw [if_pos c_15, if_neg c_23, if_pos c_46]) rfl dX10_flowBy_106
      · skip
        refine sw_lload (pc := 78) F dX10_flowBy_78 0 rfl ?_
        refine sw_goto (pc := 80) (tgt := 86) F dX10_flowBy_80 (by decide) ?_
        refine sw_lmul (pc := 86) F dX10_flowBy_86 ?_
        refine sw_topl (fun x_55 ex_55 => ?_)
        refine sw_ldc2 (pc := 87) (v := 1000) F (List.mem_of_getElem? (i := 4) rfl) dX10_flowBy_87 ?_
        refine sw_ldiv (pc := 90) F dX10_flowBy_90 (by decide) ?_
        refine sw_topl (fun x_56 ex_56 => ?_)
        refine sw_lstore (pc := 91) (lv' := [(7, .long x_56), (9, .long x_45), (0, .ref h0), (1, .long a), (3, .long b), (5, .long c)]) F T.1 dX10_flowBy_91 (by decide) rfl ?_
        refine sw_lload (pc := 93) F dX10_flowBy_93 0 rfl ?_
        refine sw_aload_n (pc := 95) F dX10_flowBy_95 rfl 2 rfl ?_
        refine sw_lload (pc := 96) F dX10_flowBy_96 0 rfl ?_
        refine sw_calll (pc := 98) (wr := []) (k' := 0) (n' := 0) F (sw_runV (R := ({ frames := 2, cells := 0, slots := 0, locals := 51 } : Room)) (q0 := 0) (na := 1) F T.2.1 T.2.2.1 (k_X10_factorAt l G h0 b0 b1 np th hh S P x_56 (by subst_vars; exact fb_qhy hK hs0 hs1 hda hpb c_23 c_46)) [0, 1, 2] rfl (by decide) gX10_flowBy_X10_factorAt rfl rfl rfl (by decide +kernel) ⟨Nat.le_of_ble_eq_true rfl, Nat.le_of_ble_eq_true rfl⟩ rfl rfl rfl rfl rfl (Nat.le_of_ble_eq_true rfl) dX10_flowBy_98 (Nat.le_of_ble_eq_true rfl) (Nat.le_of_ble_eq_true rfl)) [0, 1, 2] [] rfl rfl (by decide) (by decide) rfl rfl (fun r_57 u_58 h_59 => ?_)
        have e_60 : r_57 = f_X10_factorAt_r S x_56 := h_59
        refine sw_eq (ws' := [(h0, .inr (10, [.ref b0, .ref b1, .int np, .int th, .long hh])), (b0, .inl (G.2.1.2, 344, .inr (.inl S))), (b1, .inl (G.2.1.2, 1032, .inr (.inl P)))]) (lv' := [(7, .long x_56), (9, .long x_45), (0, .ref h0), (1, .long a), (3, .long b), (5, .long c)]) (st' := [.long r_57, .long x_56]) rfl rfl rfl ?_
        refine sw_lmul (pc := 101) F dX10_flowBy_101 ?_
        refine sw_topl (fun x_61 ex_61 => ?_)
        refine sw_ldc2 (pc := 102) (v := 10000) F (List.mem_of_getElem? (i := 3) rfl) dX10_flowBy_102 ?_
        refine sw_ldiv (pc := 105) F dX10_flowBy_105 (by decide) ?_
        refine sw_topl (fun x_62 ex_62 => ?_)
        subst ex_62
        subst ex_61
        subst e_60
        subst ex_56
        subst ex_55
        subst ex_45
        subst ex_44
        subst ex_43
        subst ex_22
        subst ex_14
        subst ex_13
        subst ex_12
        subst e_11
        subst ex_7
        subst e_6
        subst ex_2
        subst ex_1
        exact sw_lret (pc := 106) F T () (by unfold f_X10_flowBy_r; rw [if_pos c_15, if_neg c_23, if_neg c_46]) rfl dX10_flowBy_106
