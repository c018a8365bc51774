def g_X10_senses_0  (S : Nat → Int64) : Nat → Int64 := S
def g_X10_senses_1  (S1 : Nat → Int64) : Nat → Int64 := if (f_X10_isFaulty_r S1 0) = 0 then (if 0 = (S1 22) then ((vp_updL (vp_updL S1 22 0) 18 (((vp_updL S1 22 0) 18) + (f_X10_floor_r ((f_X10_readingOf_r (vp_updL S1 22 0) 0 0) - ((vp_updL S1 22 0) 18)) (1 <<< ((((vp_updL S1 22 0) 10).toInt32 : Int32).toInt64 &&& 63)))))) else ((vp_updL (vp_updL (f_X10_logs_o1 S1 1 0) 22 0) 18 (((vp_updL (f_X10_logs_o1 S1 1 0) 22 0) 18) + (f_X10_floor_r ((f_X10_readingOf_r (vp_updL (f_X10_logs_o1 S1 1 0) 22 0) 0 0) - ((vp_updL (f_X10_logs_o1 S1 1 0) 22 0) 18)) (1 <<< ((((vp_updL (f_X10_logs_o1 S1 1 0) 22 0) 10).toInt32 : Int32).toInt64 &&& 63))))))) else (if 1 = (S1 22) then ((vp_updL S1 22 1)) else ((vp_updL (f_X10_logs_o1 S1 0 0) 22 1)))
def g_X10_senses_2  (S2 : Nat → Int64) : Nat → Int64 := if (f_X10_isFaulty_r S2 1) = 0 then (if 0 = (S2 23) then ((vp_updL (vp_updL S2 23 0) 19 (((vp_updL S2 23 0) 19) + (f_X10_floor_r ((f_X10_readingOf_r (vp_updL S2 23 0) 1 1) - ((vp_updL S2 23 0) 19)) (1 <<< ((((vp_updL S2 23 0) 11).toInt32 : Int32).toInt64 &&& 63)))))) else ((vp_updL (vp_updL (f_X10_logs_o1 S2 1 1) 23 0) 19 (((vp_updL (f_X10_logs_o1 S2 1 1) 23 0) 19) + (f_X10_floor_r ((f_X10_readingOf_r (vp_updL (f_X10_logs_o1 S2 1 1) 23 0) 1 1) - ((vp_updL (f_X10_logs_o1 S2 1 1) 23 0) 19)) (1 <<< ((((vp_updL (f_X10_logs_o1 S2 1 1) 23 0) 11).toInt32 : Int32).toInt64 &&& 63))))))) else (if 1 = (S2 23) then ((vp_updL S2 23 1)) else ((vp_updL (f_X10_logs_o1 S2 0 1) 23 1)))
def g_X10_senses_3  (S3 : Nat → Int64) : Nat → Int64 := if (f_X10_isFaulty_r S3 2) = 0 then (if 0 = (S3 24) then ((vp_updL (vp_updL S3 24 0) 20 (((vp_updL S3 24 0) 20) + (f_X10_floor_r ((f_X10_readingOf_r (vp_updL S3 24 0) 2 2) - ((vp_updL S3 24 0) 20)) (1 <<< ((((vp_updL S3 24 0) 12).toInt32 : Int32).toInt64 &&& 63)))))) else ((vp_updL (vp_updL (f_X10_logs_o1 S3 1 2) 24 0) 20 (((vp_updL (f_X10_logs_o1 S3 1 2) 24 0) 20) + (f_X10_floor_r ((f_X10_readingOf_r (vp_updL (f_X10_logs_o1 S3 1 2) 24 0) 2 2) - ((vp_updL (f_X10_logs_o1 S3 1 2) 24 0) 20)) (1 <<< ((((vp_updL (f_X10_logs_o1 S3 1 2) 24 0) 12).toInt32 : Int32).toInt64 &&& 63))))))) else (if 1 = (S3 24) then ((vp_updL S3 24 1)) else ((vp_updL (f_X10_logs_o1 S3 0 2) 24 1)))
def g_X10_senses_4  (S4 : Nat → Int64) : Nat → Int64 := if (f_X10_isFaulty_r S4 3) = 0 then (if 0 = (S4 25) then ((vp_updL (vp_updL S4 25 0) 21 (((vp_updL S4 25 0) 21) + (f_X10_floor_r ((f_X10_readingOf_r (vp_updL S4 25 0) 3 3) - ((vp_updL S4 25 0) 21)) (1 <<< ((((vp_updL S4 25 0) 13).toInt32 : Int32).toInt64 &&& 63)))))) else ((vp_updL (vp_updL (f_X10_logs_o1 S4 1 3) 25 0) 21 (((vp_updL (f_X10_logs_o1 S4 1 3) 25 0) 21) + (f_X10_floor_r ((f_X10_readingOf_r (vp_updL (f_X10_logs_o1 S4 1 3) 25 0) 3 3) - ((vp_updL (f_X10_logs_o1 S4 1 3) 25 0) 21)) (1 <<< ((((vp_updL (f_X10_logs_o1 S4 1 3) 25 0) 13).toInt32 : Int32).toInt64 &&& 63))))))) else (if 1 = (S4 25) then ((vp_updL S4 25 1)) else ((vp_updL (f_X10_logs_o1 S4 0 3) 25 1)))
def g_X10_senses_5  (S5 : Nat → Int64) : Nat → Int64 := S5
set_option maxHeartbeats 4000000 in
set_option maxRecDepth 100000 in
theorem k_X10_senses (l : Launch) (G : sw_E) (h0 : Nat) (b0 : Nat) (b1 : Nat) (np : Int32) (th : Int32) (hh : Int64) (S : Nat → Int64) (P : Nat → Int64) (hm : mI S) : sw_M l G yX10_senses wsX10_senses ({ frames := 2, cells := 0, slots := 0, locals := 48 } : Room) [.ref h0] [(h0, .inr (10, [.ref b0, .ref b1, .int np, .int th, .long hh])), (b0, .inl (G.2.1.2, 344, .inr (.inl S))), (b1, .inl (G.2.1.2, 1032, .inr (.inl P)))] (sw_QV G (S := Nat → Int64) (fun (u : Nat → Int64) => u = (g_X10_senses_5 (g_X10_senses_4 (g_X10_senses_3 (g_X10_senses_2 (g_X10_senses_1 (g_X10_senses_0 S))))))) (fun u => [(h0, .inr (10, [.ref b0, .ref b1, .int np, .int th, .long hh])), (b0, .inl (G.2.1.2, 344, .inr (.inl u))), (b1, .inl (G.2.1.2, 1032, .inr (.inl P)))])) 0 0 := by
  refine sw_start (cc := cX10_senses) (maxL := 4) (ret := none) (lv := [(0, .ref h0)]) (own := RX10) (nm := "senses") (by decide +kernel) rfl rfl rfl rfl (Nat.le_of_ble_eq_true rfl) (fun C F T => ?_)
  have in10 : ∀ w ∈ u_ws RX10 TX10 5, w ∈ wsX10_senses := fun w h => List.mem_cons_of_mem _ (List.mem_append_right _ (h))
  have J5 : ∀ (S5 : Nat → Int64), S5 = (g_X10_senses_4 (g_X10_senses_3 (g_X10_senses_2 (g_X10_senses_1 (g_X10_senses_0 S))))) → mI S5 → SW G C 0 0 [(h0, .inr (10, [.ref b0, .ref b1, .int np, .int th, .long hh])), (b0, .inl (G.2.1.2, 344, .inr (.inl S5))), (b1, .inl (G.2.1.2, 1032, .inr (.inl P)))] [(1, .int 4), (0, .ref h0)] 2 [] := by
    intro S5 hS5 hm5
    refine sw_iload_n (pc := 2) F dX10_senses_2 rfl 0 rfl ?_
    refine sw_iconst (pc := 3) (v := 4) F dX10_senses_3 rfl ?_
    refine sw_icmp_ge (pc := 4) (tgt := 116) F dX10_senses_4 (by decide) (fun _ => ?_) (fun c => absurd c (by decide))
    exact sw_vret (pc := 116) F T (S5) (by rw [← hS5]; rfl) rfl dX10_senses_116
  have J4 : ∀ (S4 : Nat → Int64), S4 = (g_X10_senses_3 (g_X10_senses_2 (g_X10_senses_1 (g_X10_senses_0 S)))) → mI S4 → SW G C 0 0 [(h0, .inr (10, [.ref b0, .ref b1, .int np, .int th, .long hh])), (b0, .inl (G.2.1.2, 344, .inr (.inl S4))), (b1, .inl (G.2.1.2, 1032, .inr (.inl P)))] [(1, .int 3), (0, .ref h0)] 2 [] := by
    intro S4 hS4 hm4
    refine sw_iload_n (pc := 2) F dX10_senses_2 rfl 0 rfl ?_
    refine sw_iconst (pc := 3) (v := 4) F dX10_senses_3 rfl ?_
    refine sw_icmp_ge (pc := 4) (tgt := 116) F dX10_senses_4 (by decide) (fun c => absurd c (by decide)) (fun _ => ?_)
    refine sw_aload_n (pc := 7) F dX10_senses_7 rfl 1 rfl ?_
    refine sw_iload_n (pc := 8) F dX10_senses_8 rfl 0 rfl ?_
    refine sw_calli (pc := 9) (wr := []) (k' := 0) (n' := 0) F (sw_runV (R := ({ frames := 2, cells := 0, slots := 0, locals := 48 } : Room)) (q0 := 0) (na := 1) F T.2.1 T.2.2.1 (k_X10_isFaulty l G h0 b0 b1 np th hh S4 P 3 3 rfl (by omega)) [0, 1, 2] rfl (by decide) gX10_senses_X10_isFaulty rfl rfl rfl (by decide +kernel) ⟨Nat.le_of_ble_eq_true rfl, Nat.le_of_ble_eq_true rfl⟩ rfl rfl rfl rfl rfl (Nat.le_of_ble_eq_true rfl) dX10_senses_9 (Nat.le_of_ble_eq_true rfl) (Nat.le_of_ble_eq_true rfl)) [0, 1, 2] [] rfl rfl (by decide) (by decide) rfl rfl (fun r_160 u_161 h_162 => ?_)
    have e_163 : r_160 = f_X10_isFaulty_r S4 3 := h_162
    refine sw_eq (ws' := [(h0, .inr (10, [.ref b0, .ref b1, .int np, .int th, .long hh])), (b0, .inl (G.2.1.2, 344, .inr (.inl S4))), (b1, .inl (G.2.1.2, 1032, .inr (.inl P)))]) (lv' := [(1, .int 3), (0, .ref h0)]) (st' := [.int r_160]) rfl rfl rfl ?_
    refine sw_if_eq (pc := 12) (tgt := 19) F dX10_senses_12 (by decide) (fun c_164 => ?_) (fun c_164 => ?_)
    · skip
      refine sw_lconst (pc := 19) (v := 0) F dX10_senses_19 rfl ?_
      refine sw_lstore_n (pc := 20) (lv' := [(2, .long 0), (1, .int 3), (0, .ref h0)]) F T.1 dX10_senses_20 rfl (by decide) rfl ?_
      refine sw_lload_n (pc := 21) F dX10_senses_21 rfl 0 rfl ?_
      refine sw_aload_n (pc := 22) F dX10_senses_22 rfl 2 rfl ?_
      refine sw_get (pc := 23) (Cn := RX10) (T := TX10) (N := 5) (ci := 10) (v := .ref b0) F in10 0 rfl rfl 0 (by decide) rfl (List.mem_of_getElem? (i := 1) rfl) rfl dX10_senses_23 ?_
      refine sw_bipush (pc := 26) (v := 22) F dX10_senses_26 rfl ?_
      refine sw_iload_n (pc := 28) F dX10_senses_28 rfl 1 rfl ?_
      refine sw_iadd (pc := 29) F dX10_senses_29 ?_
      refine sw_eqt (v := .int 25) (by rfl) ?_
      refine sw_lald (pc := 30) F 1 rfl (sw_in rfl) dX10_senses_30 ?_
      refine sw_naml (e := S4 25) rfl (fun x_165 ex_165 => ?_)
      refine sw_lcmp_eq (pc := 31) (tgt := 52) F dX10_senses_31 dX10_senses_32 (by decide) (fun c_166 => ?_) (fun c_166 => ?_)
      · skip
        refine sw_aload_n (pc := 52) F dX10_senses_52 rfl 2 rfl ?_
        refine sw_get (pc := 53) (Cn := RX10) (T := TX10) (N := 5) (ci := 10) (v := .ref b0) F in10 0 rfl rfl 0 (by decide) rfl (List.mem_of_getElem? (i := 1) rfl) rfl dX10_senses_53 ?_
        refine sw_bipush (pc := 56) (v := 22) F dX10_senses_56 rfl ?_
        refine sw_iload_n (pc := 58) F dX10_senses_58 rfl 1 rfl ?_
        refine sw_iadd (pc := 59) F dX10_senses_59 ?_
        refine sw_eqt (v := .int 25) (by rfl) ?_
        refine sw_lload_n (pc := 60) F dX10_senses_60 rfl 0 rfl ?_
        obtain ⟨f_167, ef_167⟩ : ∃ y : Nat → Int64, y = vp_updL S4 25 0 := ⟨_, rfl⟩
        refine sw_last (pc := 61) (ws' := [(h0, .inr (10, [.ref b0, .ref b1, .int np, .int th, .long hh])), (b0, .inl (G.2.1.2, 344, .inr (.inl f_167))), (b1, .inl (G.2.1.2, 1032, .inr (.inl P)))]) F 1 rfl (sw_in rfl) dX10_senses_61 (by rw [ef_167]; rfl) ?_
        have mf_167 : mI f_167 := by rw [ef_167]; exact mI_u hm4 (by decide)
        refine sw_lload_n (pc := 62) F dX10_senses_62 rfl 0 rfl ?_
        refine sw_lconst (pc := 63) (v := 0) F dX10_senses_63 rfl ?_
        refine sw_lcmp_ne (pc := 64) (tgt := 110) F dX10_senses_64 dX10_senses_65 (by decide) (fun c => absurd c (by decide)) (fun _ => ?_)
        refine sw_aload_n (pc := 68) F dX10_senses_68 rfl 2 rfl ?_
        refine sw_get (pc := 69) (Cn := RX10) (T := TX10) (N := 5) (ci := 10) (v := .ref b0) F in10 0 rfl rfl 0 (by decide) rfl (List.mem_of_getElem? (i := 1) rfl) rfl dX10_senses_69 ?_
        refine sw_bipush (pc := 72) (v := 18) F dX10_senses_72 rfl ?_
        refine sw_iload_n (pc := 74) F dX10_senses_74 rfl 1 rfl ?_
        refine sw_iadd (pc := 75) F dX10_senses_75 ?_
        refine sw_eqt (v := .int 21) (by rfl) ?_
        refine sw_dup2 (pc := 76) F dX10_senses_76 rfl rfl ?_
        refine sw_lald (pc := 77) F 1 rfl (sw_in rfl) dX10_senses_77 ?_
        refine sw_naml (e := f_167 21) rfl (fun x_168 ex_168 => ?_)
        refine sw_aload_n (pc := 78) F dX10_senses_78 rfl 2 rfl ?_
        refine sw_iload_n (pc := 79) F dX10_senses_79 rfl 1 rfl ?_
        refine sw_calll (pc := 80) (wr := []) (k' := 0) (n' := 0) F (sw_runV (R := ({ frames := 2, cells := 0, slots := 0, locals := 48 } : Room)) (q0 := 0) (na := 1) F T.2.1 T.2.2.1 (k_X10_readingOf l G h0 b0 b1 np th hh f_167 P 3 3 rfl (by omega)) [0, 1, 2] rfl (by decide) gX10_senses_X10_readingOf rfl rfl rfl (by decide +kernel) ⟨Nat.le_of_ble_eq_true rfl, Nat.le_of_ble_eq_true rfl⟩ rfl rfl rfl rfl rfl (Nat.le_of_ble_eq_true rfl) dX10_senses_80 (Nat.le_of_ble_eq_true rfl) (Nat.le_of_ble_eq_true rfl)) [0, 1, 2] [] rfl rfl (by decide) (by decide) rfl rfl (fun r_169 u_170 h_171 => ?_)
        have e_172 : r_169 = f_X10_readingOf_r f_167 3 3 := h_171
        refine sw_eq (ws' := [(h0, .inr (10, [.ref b0, .ref b1, .int np, .int th, .long hh])), (b0, .inl (G.2.1.2, 344, .inr (.inl f_167))), (b1, .inl (G.2.1.2, 1032, .inr (.inl P)))]) (lv' := [(2, .long 0), (1, .int 3), (0, .ref h0)]) (st' := [.long r_169, .long x_168, .int 21, .ref b0]) rfl rfl rfl ?_
        refine sw_aload_n (pc := 83) F dX10_senses_83 rfl 2 rfl ?_
        refine sw_get (pc := 84) (Cn := RX10) (T := TX10) (N := 5) (ci := 10) (v := .ref b0) F in10 0 rfl rfl 0 (by decide) rfl (List.mem_of_getElem? (i := 1) rfl) rfl dX10_senses_84 ?_
        refine sw_bipush (pc := 87) (v := 18) F dX10_senses_87 rfl ?_
        refine sw_iload_n (pc := 89) F dX10_senses_89 rfl 1 rfl ?_
        refine sw_iadd (pc := 90) F dX10_senses_90 ?_
        refine sw_eqt (v := .int 21) (by rfl) ?_
        refine sw_lald (pc := 91) F 1 rfl (sw_in rfl) dX10_senses_91 ?_
        refine sw_naml (e := f_167 21) rfl (fun x_173 ex_173 => ?_)
        refine sw_lsub (pc := 92) F dX10_senses_92 ?_
        refine sw_topl (fun x_174 ex_174 => ?_)
        refine sw_lconst (pc := 93) (v := 1) F dX10_senses_93 rfl ?_
        refine sw_aload_n (pc := 94) F dX10_senses_94 rfl 2 rfl ?_
        refine sw_get (pc := 95) (Cn := RX10) (T := TX10) (N := 5) (ci := 10) (v := .ref b0) F in10 0 rfl rfl 0 (by decide) rfl (List.mem_of_getElem? (i := 1) rfl) rfl dX10_senses_95 ?_
        refine sw_bipush (pc := 98) (v := 10) F dX10_senses_98 rfl ?_
        refine sw_iload_n (pc := 100) F dX10_senses_100 rfl 1 rfl ?_
        refine sw_iadd (pc := 101) F dX10_senses_101 ?_
        refine sw_eqt (v := .int 13) (by rfl) ?_
        refine sw_lald (pc := 102) F 1 rfl (sw_in rfl) dX10_senses_102 ?_
        refine sw_naml (e := f_167 13) rfl (fun x_175 ex_175 => ?_)
        refine sw_l2i (pc := 103) F dX10_senses_103 rfl ?_
        refine sw_lshl (pc := 104) F dX10_senses_104 ?_
        refine sw_topl (fun x_176 ex_176 => ?_)
        refine sw_calll (pc := 105) (wr := [(h0, .inr (10, [.ref b0, .ref b1, .int np, .int th, .long hh])), (b0, .inl (G.2.1.2, 344, .inr (.inl f_167))), (b1, .inl (G.2.1.2, 1032, .inr (.inl P)))]) (k' := 0) (n' := 0) F (sw_runS (R := ({ frames := 2, cells := 0, slots := 0, locals := 48 } : Room)) (na := 2) F T.2.1 T.2.2.1 (k_X10_floor l G x_174 x_176 (by rw [ex_176]; exact sh_nz (by rw [ex_175]; exact (mf_167).2 3 (by decide)))) [] rfl (by decide) gX10_senses_X10_floor rfl rfl rfl (by decide +kernel) ⟨Nat.le_of_ble_eq_true rfl, Nat.le_of_ble_eq_true rfl⟩ rfl rfl (Nat.le_of_ble_eq_true rfl) dX10_senses_105 (Nat.le_of_ble_eq_true rfl) (Nat.le_of_ble_eq_true rfl)) [] [0, 1, 2] rfl rfl (by decide) (by decide) rfl rfl (fun r_177 u_178 h_179 => ?_)
        have e_180 : r_177 = f_X10_floor_r x_174 x_176 := h_179
        refine sw_eq (ws' := [(h0, .inr (10, [.ref b0, .ref b1, .int np, .int th, .long hh])), (b0, .inl (G.2.1.2, 344, .inr (.inl f_167))), (b1, .inl (G.2.1.2, 1032, .inr (.inl P)))]) (lv' := [(2, .long 0), (1, .int 3), (0, .ref h0)]) (st' := [.long r_177, .long x_168, .int 21, .ref b0]) rfl rfl rfl ?_
        refine sw_ladd (pc := 108) F dX10_senses_108 ?_
        refine sw_topl (fun x_181 ex_181 => ?_)
        obtain ⟨f_182, ef_182⟩ : ∃ y : Nat → Int64, y = vp_updL f_167 21 x_181 := ⟨_, rfl⟩
        refine sw_last (pc := 109) (ws' := [(h0, .inr (10, [.ref b0, .ref b1, .int np, .int th, .long hh])), (b0, .inl (G.2.1.2, 344, .inr (.inl f_182))), (b1, .inl (G.2.1.2, 1032, .inr (.inl P)))]) F 1 rfl (sw_in rfl) dX10_senses_109 (by rw [ef_182]; rfl) ?_
        have mf_182 : mI f_182 := by rw [ef_182]; exact mI_u mf_167 (by decide)
        refine sw_iinc (pc := 110) (v := 4) (lv' := [(1, .int 4), (2, .long 0), (0, .ref h0)]) F T.1 dX10_senses_110 (q := 1) rfl rfl (by decide) rfl ?_
        refine sw_goto (pc := 113) (tgt := 2) F dX10_senses_113 (by decide) ?_
        refine sw_lvs (is := [0, 2]) (lv' := [(1, .int 4), (0, .ref h0)]) rfl ?_
        subst ef_182
        subst ex_181
        subst e_180
        subst ex_176
        subst ex_175
        subst ex_174
        subst ex_173
        subst e_172
        subst ex_168
        subst ef_167
        subst ex_165
        subst e_163
        exact J5 _ (by rw [← hS4]; unfold g_X10_senses_4; rw [if_pos c_164, if_pos c_166]) mf_182
      · skip
        refine sw_aload_n (pc := 35) F dX10_senses_35 rfl 2 rfl ?_
        refine sw_lload_n (pc := 36) F dX10_senses_36 rfl 0 rfl ?_
        refine sw_lconst (pc := 37) (v := 1) F dX10_senses_37 rfl ?_
        refine sw_lcmp_ne (pc := 38) (tgt := 46) F dX10_senses_38 dX10_senses_39 (by decide) (fun _ => ?_) (fun c => absurd c (by decide))
        refine sw_iconst (pc := 46) (v := 1) F dX10_senses_46 rfl ?_
        refine sw_iload_n (pc := 47) F dX10_senses_47 rfl 1 rfl ?_
        refine sw_i2l (pc := 48) (v := 3) F dX10_senses_48 rfl ?_
        refine sw_callv (pc := 49) (wr := []) (k' := 0) (n' := 0) F (sw_runV (R := ({ frames := 2, cells := 0, slots := 0, locals := 48 } : Room)) (q0 := 0) (na := 2) F T.2.1 T.2.2.1 (k_X10_logs l G h0 b0 b1 np th hh S4 P 1 3 (hm4).1) [0, 1, 2] rfl (by decide) gX10_senses_X10_logs rfl rfl rfl (by decide +kernel) ⟨Nat.le_of_ble_eq_true rfl, Nat.le_of_ble_eq_true rfl⟩ rfl rfl rfl rfl rfl (Nat.le_of_ble_eq_true rfl) dX10_senses_49 (Nat.le_of_ble_eq_true rfl) (Nat.le_of_ble_eq_true rfl)) [0, 1, 2] [] rfl rfl (by decide) (by decide) rfl rfl (fun u_184 h_185 => ?_)
        obtain ⟨o_186, eu_184⟩ : ∃ z, z = u_184 := ⟨_, rfl⟩; subst eu_184
        have e_187 : o_186 = f_X10_logs_o1 S4 1 3 := h_185
        have mo_186 : mI o_186 := by rw [e_187]; exact mI_l hm4
        refine sw_eq (ws' := [(h0, .inr (10, [.ref b0, .ref b1, .int np, .int th, .long hh])), (b0, .inl (G.2.1.2, 344, .inr (.inl o_186))), (b1, .inl (G.2.1.2, 1032, .inr (.inl P)))]) (lv' := [(2, .long 0), (1, .int 3), (0, .ref h0)]) (st' := []) rfl rfl rfl ?_
        refine sw_aload_n (pc := 52) F dX10_senses_52 rfl 2 rfl ?_
        refine sw_get (pc := 53) (Cn := RX10) (T := TX10) (N := 5) (ci := 10) (v := .ref b0) F in10 0 rfl rfl 0 (by decide) rfl (List.mem_of_getElem? (i := 1) rfl) rfl dX10_senses_53 ?_
        refine sw_bipush (pc := 56) (v := 22) F dX10_senses_56 rfl ?_
        refine sw_iload_n (pc := 58) F dX10_senses_58 rfl 1 rfl ?_
        refine sw_iadd (pc := 59) F dX10_senses_59 ?_
        refine sw_eqt (v := .int 25) (by rfl) ?_
        refine sw_lload_n (pc := 60) F dX10_senses_60 rfl 0 rfl ?_
        obtain ⟨f_188, ef_188⟩ : ∃ y : Nat → Int64, y = vp_updL o_186 25 0 := ⟨_, rfl⟩
        refine sw_last (pc := 61) (ws' := [(h0, .inr (10, [.ref b0, .ref b1, .int np, .int th, .long hh])), (b0, .inl (G.2.1.2, 344, .inr (.inl f_188))), (b1, .inl (G.2.1.2, 1032, .inr (.inl P)))]) F 1 rfl (sw_in rfl) dX10_senses_61 (by rw [ef_188]; rfl) ?_
        have mf_188 : mI f_188 := by rw [ef_188]; exact mI_u mo_186 (by decide)
        refine sw_lload_n (pc := 62) F dX10_senses_62 rfl 0 rfl ?_
        refine sw_lconst (pc := 63) (v := 0) F dX10_senses_63 rfl ?_
        refine sw_lcmp_ne (pc := 64) (tgt := 110) F dX10_senses_64 dX10_senses_65 (by decide) (fun c => absurd c (by decide)) (fun _ => ?_)
        refine sw_aload_n (pc := 68) F dX10_senses_68 rfl 2 rfl ?_
        refine sw_get (pc := 69) (Cn := RX10) (T := TX10) (N := 5) (ci := 10) (v := .ref b0) F in10 0 rfl rfl 0 (by decide) rfl (List.mem_of_getElem? (i := 1) rfl) rfl dX10_senses_69 ?_
        refine sw_bipush (pc := 72) (v := 18) F dX10_senses_72 rfl ?_
        refine sw_iload_n (pc := 74) F dX10_senses_74 rfl 1 rfl ?_
        refine sw_iadd (pc := 75) F dX10_senses_75 ?_
        refine sw_eqt (v := .int 21) (by rfl) ?_
        refine sw_dup2 (pc := 76) F dX10_senses_76 rfl rfl ?_
        refine sw_lald (pc := 77) F 1 rfl (sw_in rfl) dX10_senses_77 ?_
        refine sw_naml (e := f_188 21) rfl (fun x_189 ex_189 => ?_)
        refine sw_aload_n (pc := 78) F dX10_senses_78 rfl 2 rfl ?_
        refine sw_iload_n (pc := 79) F dX10_senses_79 rfl 1 rfl ?_
        refine sw_calll (pc := 80) (wr := []) (k' := 0) (n' := 0) F (sw_runV (R := ({ frames := 2, cells := 0, slots := 0, locals := 48 } : Room)) (q0 := 0) (na := 1) F T.2.1 T.2.2.1 (k_X10_readingOf l G h0 b0 b1 np th hh f_188 P 3 3 rfl (by omega)) [0, 1, 2] rfl (by decide) gX10_senses_X10_readingOf rfl rfl rfl (by decide +kernel) ⟨Nat.le_of_ble_eq_true rfl, Nat.le_of_ble_eq_true rfl⟩ rfl rfl rfl rfl rfl (Nat.le_of_ble_eq_true rfl) dX10_senses_80 (Nat.le_of_ble_eq_true rfl) (Nat.le_of_ble_eq_true rfl)) [0, 1, 2] [] rfl rfl (by decide) (by decide) rfl rfl (fun r_190 u_191 h_192 => ?_)
        have e_193 : r_190 = f_X10_readingOf_r f_188 3 3 := h_192
        refine sw_eq (ws' := [(h0, .inr (10, [.ref b0, .ref b1, .int np, .int th, .long hh])), (b0, .inl (G.2.1.2, 344, .inr (.inl f_188))), (b1, .inl (G.2.1.2, 1032, .inr (.inl P)))]) (lv' := [(2, .long 0), (1, .int 3), (0, .ref h0)]) (st' := [.long r_190, .long x_189, .int 21, .ref b0]) rfl rfl rfl ?_
        refine sw_aload_n (pc := 83) F dX10_senses_83 rfl 2 rfl ?_
        refine sw_get (pc := 84) (Cn := RX10) (T := TX10) (N := 5) (ci := 10) (v := .ref b0) F in10 0 rfl rfl 0 (by decide) rfl (List.mem_of_getElem? (i := 1) rfl) rfl dX10_senses_84 ?_
        refine sw_bipush (pc := 87) (v := 18) F dX10_senses_87 rfl ?_
        refine sw_iload_n (pc := 89) F dX10_senses_89 rfl 1 rfl ?_
        refine sw_iadd (pc := 90) F dX10_senses_90 ?_
        refine sw_eqt (v := .int 21) (by rfl) ?_
        refine sw_lald (pc := 91) F 1 rfl (sw_in rfl) dX10_senses_91 ?_
        refine sw_naml (e := f_188 21) rfl (fun x_194 ex_194 => ?_)
        refine sw_lsub (pc := 92) F dX10_senses_92 ?_
        refine sw_topl (fun x_195 ex_195 => ?_)
        refine sw_lconst (pc := 93) (v := 1) F dX10_senses_93 rfl ?_
        refine sw_aload_n (pc := 94) F dX10_senses_94 rfl 2 rfl ?_
        refine sw_get (pc := 95) (Cn := RX10) (T := TX10) (N := 5) (ci := 10) (v := .ref b0) F in10 0 rfl rfl 0 (by decide) rfl (List.mem_of_getElem? (i := 1) rfl) rfl dX10_senses_95 ?_
        refine sw_bipush (pc := 98) (v := 10) F dX10_senses_98 rfl ?_
        refine sw_iload_n (pc := 100) F dX10_senses_100 rfl 1 rfl ?_
        refine sw_iadd (pc := 101) F dX10_senses_101 ?_
        refine sw_eqt (v := .int 13) (by rfl) ?_
        refine sw_lald (pc := 102) F 1 rfl (sw_in rfl) dX10_senses_102 ?_
        refine sw_naml (e := f_188 13) rfl (fun x_196 ex_196 => ?_)
        refine sw_l2i (pc := 103) F dX10_senses_103 rfl ?_
        refine sw_lshl (pc := 104) F dX10_senses_104 ?_
        refine sw_topl (fun x_197 ex_197 => ?_)
        refine sw_calll (pc := 105) (wr := [(h0, .inr (10, [.ref b0, .ref b1, .int np, .int th, .long hh])), (b0, .inl (G.2.1.2, 344, .inr (.inl f_188))), (b1, .inl (G.2.1.2, 1032, .inr (.inl P)))]) (k' := 0) (n' := 0) F (sw_runS (R := ({ frames := 2, cells := 0, slots := 0, locals := 48 } : Room)) (na := 2) F T.2.1 T.2.2.1 (k_X10_floor l G x_195 x_197 (by rw [ex_197]; exact sh_nz (by rw [ex_196]; exact (mf_188).2 3 (by decide)))) [] rfl (by decide) gX10_senses_X10_floor rfl rfl rfl (by decide +kernel) ⟨Nat.le_of_ble_eq_true rfl, Nat.le_of_ble_eq_true rfl⟩ rfl rfl (Nat.le_of_ble_eq_true rfl) dX10_senses_105 (Nat.le_of_ble_eq_true rfl) (Nat.le_of_ble_eq_true rfl)) [] [0, 1, 2] rfl rfl (by decide) (by decide) rfl rfl (fun r_198 u_199 h_200 => ?_)
        have e_201 : r_198 = f_X10_floor_r x_195 x_197 := h_200
        refine sw_eq (ws' := [(h0, .inr (10, [.ref b0, .ref b1, .int np, .int th, .long hh])), (b0, .inl (G.2.1.2, 344, .inr (.inl f_188))), (b1, .inl (G.2.1.2, 1032, .inr (.inl P)))]) (lv' := [(2, .long 0), (1, .int 3), (0, .ref h0)]) (st' := [.long r_198, .long x_189, .int 21, .ref b0]) rfl rfl rfl ?_
        refine sw_ladd (pc := 108) F dX10_senses_108 ?_
        refine sw_topl (fun x_202 ex_202 => ?_)
        obtain ⟨f_203, ef_203⟩ : ∃ y : Nat → Int64, y = vp_updL f_188 21 x_202 := ⟨_, rfl⟩
        refine sw_last (pc := 109) (ws' := [(h0, .inr (10, [.ref b0, .ref b1, .int np, .int th, .long hh])), (b0, .inl (G.2.1.2, 344, .inr (.inl f_203))), (b1, .inl (G.2.1.2, 1032, .inr (.inl P)))]) F 1 rfl (sw_in rfl) dX10_senses_109 (by rw [ef_203]; rfl) ?_
        have mf_203 : mI f_203 := by rw [ef_203]; exact mI_u mf_188 (by decide)
        refine sw_iinc (pc := 110) (v := 4) (lv' := [(1, .int 4), (2, .long 0), (0, .ref h0)]) F T.1 dX10_senses_110 (q := 1) rfl rfl (by decide) rfl ?_
        refine sw_goto (pc := 113) (tgt := 2) F dX10_senses_113 (by decide) ?_
        refine sw_lvs (is := [0, 2]) (lv' := [(1, .int 4), (0, .ref h0)]) rfl ?_
        subst ef_203
        subst ex_202
        subst e_201
        subst ex_197
        subst ex_196
        subst ex_195
        subst ex_194
        subst e_193
        subst ex_189
        subst ef_188
        subst e_187
        subst ex_165
        subst e_163
        exact J5 _ (by rw [← hS4]; unfold g_X10_senses_4; rw [if_pos c_164, if_neg c_166]) mf_203
    · skip
      refine sw_lconst (pc := 15) (v := 1) F dX10_senses_15 rfl ?_
      refine sw_goto (pc := 16) (tgt := 20) F dX10_senses_16 (by decide) ?_
      refine sw_lstore_n (pc := 20) (lv' := [(2, .long 1), (1, .int 3), (0, .ref h0)]) F T.1 dX10_senses_20 rfl (by decide) rfl ?_
      refine sw_lload_n (pc := 21) F dX10_senses_21 rfl 0 rfl ?_
      refine sw_aload_n (pc := 22) F dX10_senses_22 rfl 2 rfl ?_
      refine sw_get (pc := 23) (Cn := RX10) (T := TX10) (N := 5) (ci := 10) (v := .ref b0) F in10 0 rfl rfl 0 (by decide) rfl (List.mem_of_getElem? (i := 1) rfl) rfl dX10_senses_23 ?_
      refine sw_bipush (pc := 26) (v := 22) F dX10_senses_26 rfl ?_
      refine sw_iload_n (pc := 28) F dX10_senses_28 rfl 1 rfl ?_
      refine sw_iadd (pc := 29) F dX10_senses_29 ?_
      refine sw_eqt (v := .int 25) (by rfl) ?_
      refine sw_lald (pc := 30) F 1 rfl (sw_in rfl) dX10_senses_30 ?_
      refine sw_naml (e := S4 25) rfl (fun x_204 ex_204 => ?_)
      refine sw_lcmp_eq (pc := 31) (tgt := 52) F dX10_senses_31 dX10_senses_32 (by decide) (fun c_205 => ?_) (fun c_205 => ?_)
      · skip
        refine sw_aload_n (pc := 52) F dX10_senses_52 rfl 2 rfl ?_
        refine sw_get (pc := 53) (Cn := RX10) (T := TX10) (N := 5) (ci := 10) (v := .ref b0) F in10 0 rfl rfl 0 (by decide) rfl (List.mem_of_getElem? (i := 1) rfl) rfl dX10_senses_53 ?_
        refine sw_bipush (pc := 56) (v := 22) F dX10_senses_56 rfl ?_
        refine sw_iload_n (pc := 58) F dX10_senses_58 rfl 1 rfl ?_
        refine sw_iadd (pc := 59) F dX10_senses_59 ?_
        refine sw_eqt (v := .int 25) (by rfl) ?_
        refine sw_lload_n (pc := 60) F dX10_senses_60 rfl 0 rfl ?_
        obtain ⟨f_206, ef_206⟩ : ∃ y : Nat → Int64, y = vp_updL S4 25 1 := ⟨_, rfl⟩
        refine sw_last (pc := 61) (ws' := [(h0, .inr (10, [.ref b0, .ref b1, .int np, .int th, .long hh])), (b0, .inl (G.2.1.2, 344, .inr (.inl f_206))), (b1, .inl (G.2.1.2, 1032, .inr (.inl P)))]) F 1 rfl (sw_in rfl) dX10_senses_61 (by rw [ef_206]; rfl) ?_
        have mf_206 : mI f_206 := by rw [ef_206]; exact mI_u hm4 (by decide)
        refine sw_lload_n (pc := 62) F dX10_senses_62 rfl 0 rfl ?_
        refine sw_lconst (pc := 63) (v := 0) F dX10_senses_63 rfl ?_
        refine sw_lcmp_ne (pc := 64) (tgt := 110) F dX10_senses_64 dX10_senses_65 (by decide) (fun _ => ?_) (fun c => absurd c (by decide))
        refine sw_iinc (pc := 110) (v := 4) (lv' := [(1, .int 4), (2, .long 1), (0, .ref h0)]) F T.1 dX10_senses_110 (q := 1) rfl rfl (by decide) rfl ?_
        refine sw_goto (pc := 113) (tgt := 2) F dX10_senses_113 (by decide) ?_
        refine sw_lvs (is := [0, 2]) (lv' := [(1, .int 4), (0, .ref h0)]) rfl ?_
        subst ef_206
        subst ex_204
        subst e_163
        exact J5 _ (by rw [← hS4]; unfold g_X10_senses_4; rw [if_neg c_164, if_pos c_205]) mf_206
      · skip
        refine sw_aload_n (pc := 35) F dX10_senses_35 rfl 2 rfl ?_
        refine sw_lload_n (pc := 36) F dX10_senses_36 rfl 0 rfl ?_
        refine sw_lconst (pc := 37) (v := 1) F dX10_senses_37 rfl ?_
        refine sw_lcmp_ne (pc := 38) (tgt := 46) F dX10_senses_38 dX10_senses_39 (by decide) (fun c => absurd c (by decide)) (fun _ => ?_)
        refine sw_iconst (pc := 42) (v := 0) F dX10_senses_42 rfl ?_
        refine sw_goto (pc := 43) (tgt := 47) F dX10_senses_43 (by decide) ?_
        refine sw_iload_n (pc := 47) F dX10_senses_47 rfl 1 rfl ?_
        refine sw_i2l (pc := 48) (v := 3) F dX10_senses_48 rfl ?_
        refine sw_callv (pc := 49) (wr := []) (k' := 0) (n' := 0) F (sw_runV (R := ({ frames := 2, cells := 0, slots := 0, locals := 48 } : Room)) (q0 := 0) (na := 2) F T.2.1 T.2.2.1 (k_X10_logs l G h0 b0 b1 np th hh S4 P 0 3 (hm4).1) [0, 1, 2] rfl (by decide) gX10_senses_X10_logs rfl rfl rfl (by decide +kernel) ⟨Nat.le_of_ble_eq_true rfl, Nat.le_of_ble_eq_true rfl⟩ rfl rfl rfl rfl rfl (Nat.le_of_ble_eq_true rfl) dX10_senses_49 (Nat.le_of_ble_eq_true rfl) (Nat.le_of_ble_eq_true rfl)) [0, 1, 2] [] rfl rfl (by decide) (by decide) rfl rfl (fun u_208 h_209 => ?_)
        obtain ⟨o_210, eu_208⟩ : ∃ z, z = u_208 := ⟨_, rfl⟩; subst eu_208
        have e_211 : o_210 = f_X10_logs_o1 S4 0 3 := h_209
        have mo_210 : mI o_210 := by rw [e_211]; exact mI_l hm4
        refine sw_eq (ws' := [(h0, .inr (10, [.ref b0, .ref b1, .int np, .int th, .long hh])), (b0, .inl (G.2.1.2, 344, .inr (.inl o_210))), (b1, .inl (G.2.1.2, 1032, .inr (.inl P)))]) (lv' := [(2, .long 1), (1, .int 3), (0, .ref h0)]) (st' := []) rfl rfl rfl ?_
        refine sw_aload_n (pc := 52) F dX10_senses_52 rfl 2 rfl ?_
        refine sw_get (pc := 53) (Cn := RX10) (T := TX10) (N := 5) (ci := 10) (v := .ref b0) F in10 0 rfl rfl 0 (by decide) rfl (List.mem_of_getElem? (i := 1) rfl) rfl dX10_senses_53 ?_
        refine sw_bipush (pc := 56) (v := 22) F dX10_senses_56 rfl ?_
        refine sw_iload_n (pc := 58) F dX10_senses_58 rfl 1 rfl ?_
        refine sw_iadd (pc := 59) F dX10_senses_59 ?_
        refine sw_eqt (v := .int 25) (by rfl) ?_
        refine sw_lload_n (pc := 60) F dX10_senses_60 rfl 0 rfl ?_
        obtain ⟨f_212, ef_212⟩ : ∃ y : Nat → Int64, y = vp_updL o_210 25 1 := ⟨_, rfl⟩
        refine sw_last (pc := 61) (ws' := [(h0, .inr (10, [.ref b0, .ref b1, .int np, .int th, .long hh])), (b0, .inl (G.2.1.2, 344, .inr (.inl f_212))), (b1, .inl (G.2.1.2, 1032, .inr (.inl P)))]) F 1 rfl (sw_in rfl) dX10_senses_61 (by rw [ef_212]; rfl) ?_
        have mf_212 : mI f_212 := by rw [ef_212]; exact mI_u mo_210 (by decide)
        refine sw_lload_n (pc := 62) F dX10_senses_62 rfl 0 rfl ?_
        refine sw_lconst (pc := 63) (v := 0) F dX10_senses_63 rfl ?_
        refine sw_lcmp_ne (pc := 64) (tgt := 110) F dX10_senses_64 dX10_senses_65 (by decide) (fun _ => ?_) (fun c => absurd c (by decide))
        refine sw_iinc (pc := 110) (v := 4) (lv' := [(1, .int 4), (2, .long 1), (0, .ref h0)]) F T.1 dX10_senses_110 (q := 1) rfl rfl (by decide) rfl ?_
        refine sw_goto (pc := 113) (tgt := 2) F dX10_senses_113 (by decide) ?_
        refine sw_lvs (is := [0, 2]) (lv' := [(1, .int 4), (0, .ref h0)]) rfl ?_
        subst ef_212
        subst e_211
        subst ex_204
        subst e_163
        exact J5 _ (by rw [← hS4]; unfold g_X10_senses_4; rw [if_neg c_164, if_neg c_205]) mf_212
  have J3 : ∀ (S3 : Nat → Int64), S3 = (g_X10_senses_2 (g_X10_senses_1 (g_X10_senses_0 S))) → mI S3 → SW G C 0 0 [(h0, .inr (10, [.ref b0, .ref b1, .int np, .int th, .long hh])), (b0, .inl (G.2.1.2, 344, .inr (.inl S3))), (b1, .inl (G.2.1.2, 1032, .inr (.inl P)))] [(1, .int 2), (0, .ref h0)] 2 [] := by
    intro S3 hS3 hm3
    refine sw_iload_n (pc := 2) F dX10_senses_2 rfl 0 rfl ?_
    refine sw_iconst (pc := 3) (v := 4) F dX10_senses_3 rfl ?_
    refine sw_icmp_ge (pc := 4) (tgt := 116) F dX10_senses_4 (by decide) (fun c => absurd c (by decide)) (fun _ => ?_)
    refine sw_aload_n (pc := 7) F dX10_senses_7 rfl 1 rfl ?_
    refine sw_iload_n (pc := 8) F dX10_senses_8 rfl 0 rfl ?_
    refine sw_calli (pc := 9) (wr := []) (k' := 0) (n' := 0) F (sw_runV (R := ({ frames := 2, cells := 0, slots := 0, locals := 48 } : Room)) (q0 := 0) (na := 1) F T.2.1 T.2.2.1 (k_X10_isFaulty l G h0 b0 b1 np th hh S3 P 2 2 rfl (by omega)) [0, 1, 2] rfl (by decide) gX10_senses_X10_isFaulty rfl rfl rfl (by decide +kernel) ⟨Nat.le_of_ble_eq_true rfl, Nat.le_of_ble_eq_true rfl⟩ rfl rfl rfl rfl rfl (Nat.le_of_ble_eq_true rfl) dX10_senses_9 (Nat.le_of_ble_eq_true rfl) (Nat.le_of_ble_eq_true rfl)) [0, 1, 2] [] rfl rfl (by decide) (by decide) rfl rfl (fun r_107 u_108 h_109 => ?_)
    have e_110 : r_107 = f_X10_isFaulty_r S3 2 := h_109
    refine sw_eq (ws' := [(h0, .inr (10, [.ref b0, .ref b1, .int np, .int th, .long hh])), (b0, .inl (G.2.1.2, 344, .inr (.inl S3))), (b1, .inl (G.2.1.2, 1032, .inr (.inl P)))]) (lv' := [(1, .int 2), (0, .ref h0)]) (st' := [.int r_107]) rfl rfl rfl ?_
    refine sw_if_eq (pc := 12) (tgt := 19) F dX10_senses_12 (by decide) (fun c_111 => ?_) (fun c_111 => ?_)
    · skip
      refine sw_lconst (pc := 19) (v := 0) F dX10_senses_19 rfl ?_
      refine sw_lstore_n (pc := 20) (lv' := [(2, .long 0), (1, .int 2), (0, .ref h0)]) F T.1 dX10_senses_20 rfl (by decide) rfl ?_
      refine sw_lload_n (pc := 21) F dX10_senses_21 rfl 0 rfl ?_
      refine sw_aload_n (pc := 22) F dX10_senses_22 rfl 2 rfl ?_
      refine sw_get (pc := 23) (Cn := RX10) (T := TX10) (N := 5) (ci := 10) (v := .ref b0) F in10 0 rfl rfl 0 (by decide) rfl (List.mem_of_getElem? (i := 1) rfl) rfl dX10_senses_23 ?_
      refine sw_bipush (pc := 26) (v := 22) F dX10_senses_26 rfl ?_
      refine sw_iload_n (pc := 28) F dX10_senses_28 rfl 1 rfl ?_
      refine sw_iadd (pc := 29) F dX10_senses_29 ?_
      refine sw_eqt (v := .int 24) (by rfl) ?_
      refine sw_lald (pc := 30) F 1 rfl (sw_in rfl) dX10_senses_30 ?_
      refine sw_naml (e := S3 24) rfl (fun x_112 ex_112 => ?_)
      refine sw_lcmp_eq (pc := 31) (tgt := 52) F dX10_senses_31 dX10_senses_32 (by decide) (fun c_113 => ?_) (fun c_113 => ?_)
      · skip
        refine sw_aload_n (pc := 52) F dX10_senses_52 rfl 2 rfl ?_
        refine sw_get (pc := 53) (Cn := RX10) (T := TX10) (N := 5) (ci := 10) (v := .ref b0) F in10 0 rfl rfl 0 (by decide) rfl (List.mem_of_getElem? (i := 1) rfl) rfl dX10_senses_53 ?_
        refine sw_bipush (pc := 56) (v := 22) F dX10_senses_56 rfl ?_
        refine sw_iload_n (pc := 58) F dX10_senses_58 rfl 1 rfl ?_
        refine sw_iadd (pc := 59) F dX10_senses_59 ?_
        refine sw_eqt (v := .int 24) (by rfl) ?_
        refine sw_lload_n (pc := 60) F dX10_senses_60 rfl 0 rfl ?_
        obtain ⟨f_114, ef_114⟩ : ∃ y : Nat → Int64, y = vp_updL S3 24 0 := ⟨_, rfl⟩
        refine sw_last (pc := 61) (ws' := [(h0, .inr (10, [.ref b0, .ref b1, .int np, .int th, .long hh])), (b0, .inl (G.2.1.2, 344, .inr (.inl f_114))), (b1, .inl (G.2.1.2, 1032, .inr (.inl P)))]) F 1 rfl (sw_in rfl) dX10_senses_61 (by rw [ef_114]; rfl) ?_
        have mf_114 : mI f_114 := by rw [ef_114]; exact mI_u hm3 (by decide)
        refine sw_lload_n (pc := 62) F dX10_senses_62 rfl 0 rfl ?_
        refine sw_lconst (pc := 63) (v := 0) F dX10_senses_63 rfl ?_
        refine sw_lcmp_ne (pc := 64) (tgt := 110) F dX10_senses_64 dX10_senses_65 (by decide) (fun c => absurd c (by decide)) (fun _ => ?_)
        refine sw_aload_n (pc := 68) F dX10_senses_68 rfl 2 rfl ?_
        refine sw_get (pc := 69) (Cn := RX10) (T := TX10) (N := 5) (ci := 10) (v := .ref b0) F in10 0 rfl rfl 0 (by decide) rfl (List.mem_of_getElem? (i := 1) rfl) rfl dX10_senses_69 ?_
        refine sw_bipush (pc := 72) (v := 18) F dX10_senses_72 rfl ?_
        refine sw_iload_n (pc := 74) F dX10_senses_74 rfl 1 rfl ?_
        refine sw_iadd (pc := 75) F dX10_senses_75 ?_
        refine sw_eqt (v := .int 20) (by rfl) ?_
        refine sw_dup2 (pc := 76) F dX10_senses_76 rfl rfl ?_
        refine sw_lald (pc := 77) F 1 rfl (sw_in rfl) dX10_senses_77 ?_
        refine sw_naml (e := f_114 20) rfl (fun x_115 ex_115 => ?_)
        refine sw_aload_n (pc := 78) F dX10_senses_78 rfl 2 rfl ?_
        refine sw_iload_n (pc := 79) F dX10_senses_79 rfl 1 rfl ?_
        refine sw_calll (pc := 80) (wr := []) (k' := 0) (n' := 0) F (sw_runV (R := ({ frames := 2, cells := 0, slots := 0, locals := 48 } : Room)) (q0 := 0) (na := 1) F T.2.1 T.2.2.1 (k_X10_readingOf l G h0 b0 b1 np th hh f_114 P 2 2 rfl (by omega)) [0, 1, 2] rfl (by decide) gX10_senses_X10_readingOf rfl rfl rfl (by decide +kernel) ⟨Nat.le_of_ble_eq_true rfl, Nat.le_of_ble_eq_true rfl⟩ rfl rfl rfl rfl rfl (Nat.le_of_ble_eq_true rfl) dX10_senses_80 (Nat.le_of_ble_eq_true rfl) (Nat.le_of_ble_eq_true rfl)) [0, 1, 2] [] rfl rfl (by decide) (by decide) rfl rfl (fun r_116 u_117 h_118 => ?_)
        have e_119 : r_116 = f_X10_readingOf_r f_114 2 2 := h_118
        refine sw_eq (ws' := [(h0, .inr (10, [.ref b0, .ref b1, .int np, .int th, .long hh])), (b0, .inl (G.2.1.2, 344, .inr (.inl f_114))), (b1, .inl (G.2.1.2, 1032, .inr (.inl P)))]) (lv' := [(2, .long 0), (1, .int 2), (0, .ref h0)]) (st' := [.long r_116, .long x_115, .int 20, .ref b0]) rfl rfl rfl ?_
        refine sw_aload_n (pc := 83) F dX10_senses_83 rfl 2 rfl ?_
        refine sw_get (pc := 84) (Cn := RX10) (T := TX10) (N := 5) (ci := 10) (v := .ref b0) F in10 0 rfl rfl 0 (by decide) rfl (List.mem_of_getElem? (i := 1) rfl) rfl dX10_senses_84 ?_
        refine sw_bipush (pc := 87) (v := 18) F dX10_senses_87 rfl ?_
        refine sw_iload_n (pc := 89) F dX10_senses_89 rfl 1 rfl ?_
        refine sw_iadd (pc := 90) F dX10_senses_90 ?_
        refine sw_eqt (v := .int 20) (by rfl) ?_
        refine sw_lald (pc := 91) F 1 rfl (sw_in rfl) dX10_senses_91 ?_
        refine sw_naml (e := f_114 20) rfl (fun x_120 ex_120 => ?_)
        refine sw_lsub (pc := 92) F dX10_senses_92 ?_
        refine sw_topl (fun x_121 ex_121 => ?_)
        refine sw_lconst (pc := 93) (v := 1) F dX10_senses_93 rfl ?_
        refine sw_aload_n (pc := 94) F dX10_senses_94 rfl 2 rfl ?_
        refine sw_get (pc := 95) (Cn := RX10) (T := TX10) (N := 5) (ci := 10) (v := .ref b0) F in10 0 rfl rfl 0 (by decide) rfl (List.mem_of_getElem? (i := 1) rfl) rfl dX10_senses_95 ?_
        refine sw_bipush (pc := 98) (v := 10) F dX10_senses_98 rfl ?_
        refine sw_iload_n (pc := 100) F dX10_senses_100 rfl 1 rfl ?_
        refine sw_iadd (pc := 101) F dX10_senses_101 ?_
        refine sw_eqt (v := .int 12) (by rfl) ?_
        refine sw_lald (pc := 102) F 1 rfl (sw_in rfl) dX10_senses_102 ?_
        refine sw_naml (e := f_114 12) rfl (fun x_122 ex_122 => ?_)
        refine sw_l2i (pc := 103) F dX10_senses_103 rfl ?_
        refine sw_lshl (pc := 104) F dX10_senses_104 ?_
        refine sw_topl (fun x_123 ex_123 => ?_)
        refine sw_calll (pc := 105) (wr := [(h0, .inr (10, [.ref b0, .ref b1, .int np, .int th, .long hh])), (b0, .inl (G.2.1.2, 344, .inr (.inl f_114))), (b1, .inl (G.2.1.2, 1032, .inr (.inl P)))]) (k' := 0) (n' := 0) F (sw_runS (R := ({ frames := 2, cells := 0, slots := 0, locals := 48 } : Room)) (na := 2) F T.2.1 T.2.2.1 (k_X10_floor l G x_121 x_123 (by rw [ex_123]; exact sh_nz (by rw [ex_122]; exact (mf_114).2 2 (by decide)))) [] rfl (by decide) gX10_senses_X10_floor rfl rfl rfl (by decide +kernel) ⟨Nat.le_of_ble_eq_true rfl, Nat.le_of_ble_eq_true rfl⟩ rfl rfl (Nat.le_of_ble_eq_true rfl) dX10_senses_105 (Nat.le_of_ble_eq_true rfl) (Nat.le_of_ble_eq_true rfl)) [] [0, 1, 2] rfl rfl (by decide) (by decide) rfl rfl (fun r_124 u_125 h_126 => ?_)
        have e_127 : r_124 = f_X10_floor_r x_121 x_123 := h_126
        refine sw_eq (ws' := [(h0, .inr (10, [.ref b0, .ref b1, .int np, .int th, .long hh])), (b0, .inl (G.2.1.2, 344, .inr (.inl f_114))), (b1, .inl (G.2.1.2, 1032, .inr (.inl P)))]) (lv' := [(2, .long 0), (1, .int 2), (0, .ref h0)]) (st' := [.long r_124, .long x_115, .int 20, .ref b0]) rfl rfl rfl ?_
        refine sw_ladd (pc := 108) F dX10_senses_108 ?_
        refine sw_topl (fun x_128 ex_128 => ?_)
        obtain ⟨f_129, ef_129⟩ : ∃ y : Nat → Int64, y = vp_updL f_114 20 x_128 := ⟨_, rfl⟩
        refine sw_last (pc := 109) (ws' := [(h0, .inr (10, [.ref b0, .ref b1, .int np, .int th, .long hh])), (b0, .inl (G.2.1.2, 344, .inr (.inl f_129))), (b1, .inl (G.2.1.2, 1032, .inr (.inl P)))]) F 1 rfl (sw_in rfl) dX10_senses_109 (by rw [ef_129]; rfl) ?_
        have mf_129 : mI f_129 := by rw [ef_129]; exact mI_u mf_114 (by decide)
        refine sw_iinc (pc := 110) (v := 3) (lv' := [(1, .int 3), (2, .long 0), (0, .ref h0)]) F T.1 dX10_senses_110 (q := 1) rfl rfl (by decide) rfl ?_
        refine sw_goto (pc := 113) (tgt := 2) F dX10_senses_113 (by decide) ?_
        refine sw_lvs (is := [0, 2]) (lv' := [(1, .int 3), (0, .ref h0)]) rfl ?_
        subst ef_129
        subst ex_128
        subst e_127
        subst ex_123
        subst ex_122
        subst ex_121
        subst ex_120
        subst e_119
        subst ex_115
        subst ef_114
        subst ex_112
        subst e_110
        exact J4 _ (by rw [← hS3]; unfold g_X10_senses_3; rw [if_pos c_111, if_pos c_113]) mf_129
      · skip
        refine sw_aload_n (pc := 35) F dX10_senses_35 rfl 2 rfl ?_
        refine sw_lload_n (pc := 36) F dX10_senses_36 rfl 0 rfl ?_
        refine sw_lconst (pc := 37) (v := 1) F dX10_senses_37 rfl ?_
        refine sw_lcmp_ne (pc := 38) (tgt := 46) F dX10_senses_38 dX10_senses_39 (by decide) (fun _ => ?_) (fun c => absurd c (by decide))
        refine sw_iconst (pc := 46) (v := 1) F dX10_senses_46 rfl ?_
        refine sw_iload_n (pc := 47) F dX10_senses_47 rfl 1 rfl ?_
        refine sw_i2l (pc := 48) (v := 2) F dX10_senses_48 rfl ?_
        refine sw_callv (pc := 49) (wr := []) (k' := 0) (n' := 0) F (sw_runV (R := ({ frames := 2, cells := 0, slots := 0, locals := 48 } : Room)) (q0 := 0) (na := 2) F T.2.1 T.2.2.1 (k_X10_logs l G h0 b0 b1 np th hh S3 P 1 2 (hm3).1) [0, 1, 2] rfl (by decide) gX10_senses_X10_logs rfl rfl rfl (by decide +kernel) ⟨Nat.le_of_ble_eq_true rfl, Nat.le_of_ble_eq_true rfl⟩ rfl rfl rfl rfl rfl (Nat.le_of_ble_eq_true rfl) dX10_senses_49 (Nat.le_of_ble_eq_true rfl) (Nat.le_of_ble_eq_true rfl)) [0, 1, 2] [] rfl rfl (by decide) (by decide) rfl rfl (fun u_131 h_132 => ?_)
        obtain ⟨o_133, eu_131⟩ : ∃ z, z = u_131 := ⟨_, rfl⟩; subst eu_131
        have e_134 : o_133 = f_X10_logs_o1 S3 1 2 := h_132
        have mo_133 : mI o_133 := by rw [e_134]; exact mI_l hm3
        refine sw_eq (ws' := [(h0, .inr (10, [.ref b0, .ref b1, .int np, .int th, .long hh])), (b0, .inl (G.2.1.2, 344, .inr (.inl o_133))), (b1, .inl (G.2.1.2, 1032, .inr (.inl P)))]) (lv' := [(2, .long 0), (1, .int 2), (0, .ref h0)]) (st' := []) rfl rfl rfl ?_
        refine sw_aload_n (pc := 52) F dX10_senses_52 rfl 2 rfl ?_
        refine sw_get (pc := 53) (Cn := RX10) (T := TX10) (N := 5) (ci := 10) (v := .ref b0) F in10 0 rfl rfl 0 (by decide) rfl (List.mem_of_getElem? (i := 1) rfl) rfl dX10_senses_53 ?_
        refine sw_bipush (pc := 56) (v := 22) F dX10_senses_56 rfl ?_
        refine sw_iload_n (pc := 58) F dX10_senses_58 rfl 1 rfl ?_
        refine sw_iadd (pc := 59) F dX10_senses_59 ?_
        refine sw_eqt (v := .int 24) (by rfl) ?_
        refine sw_lload_n (pc := 60) F dX10_senses_60 rfl 0 rfl ?_
        obtain ⟨f_135, ef_135⟩ : ∃ y : Nat → Int64, y = vp_updL o_133 24 0 := ⟨_, rfl⟩
        refine sw_last (pc := 61) (ws' := [(h0, .inr (10, [.ref b0, .ref b1, .int np, .int th, .long hh])), (b0, .inl (G.2.1.2, 344, .inr (.inl f_135))), (b1, .inl (G.2.1.2, 1032, .inr (.inl P)))]) F 1 rfl (sw_in rfl) dX10_senses_61 (by rw [ef_135]; rfl) ?_
        have mf_135 : mI f_135 := by rw [ef_135]; exact mI_u mo_133 (by decide)
        refine sw_lload_n (pc := 62) F dX10_senses_62 rfl 0 rfl ?_
        refine sw_lconst (pc := 63) (v := 0) F dX10_senses_63 rfl ?_
        refine sw_lcmp_ne (pc := 64) (tgt := 110) F dX10_senses_64 dX10_senses_65 (by decide) (fun c => absurd c (by decide)) (fun _ => ?_)
        refine sw_aload_n (pc := 68) F dX10_senses_68 rfl 2 rfl ?_
        refine sw_get (pc := 69) (Cn := RX10) (T := TX10) (N := 5) (ci := 10) (v := .ref b0) F in10 0 rfl rfl 0 (by decide) rfl (List.mem_of_getElem? (i := 1) rfl) rfl dX10_senses_69 ?_
        refine sw_bipush (pc := 72) (v := 18) F dX10_senses_72 rfl ?_
        refine sw_iload_n (pc := 74) F dX10_senses_74 rfl 1 rfl ?_
        refine sw_iadd (pc := 75) F dX10_senses_75 ?_
        refine sw_eqt (v := .int 20) (by rfl) ?_
        refine sw_dup2 (pc := 76) F dX10_senses_76 rfl rfl ?_
        refine sw_lald (pc := 77) F 1 rfl (sw_in rfl) dX10_senses_77 ?_
        refine sw_naml (e := f_135 20) rfl (fun x_136 ex_136 => ?_)
        refine sw_aload_n (pc := 78) F dX10_senses_78 rfl 2 rfl ?_
        refine sw_iload_n (pc := 79) F dX10_senses_79 rfl 1 rfl ?_
        refine sw_calll (pc := 80) (wr := []) (k' := 0) (n' := 0) F (sw_runV (R := ({ frames := 2, cells := 0, slots := 0, locals := 48 } : Room)) (q0 := 0) (na := 1) F T.2.1 T.2.2.1 (k_X10_readingOf l G h0 b0 b1 np th hh f_135 P 2 2 rfl (by omega)) [0, 1, 2] rfl (by decide) gX10_senses_X10_readingOf rfl rfl rfl (by decide +kernel) ⟨Nat.le_of_ble_eq_true rfl, Nat.le_of_ble_eq_true rfl⟩ rfl rfl rfl rfl rfl (Nat.le_of_ble_eq_true rfl) dX10_senses_80 (Nat.le_of_ble_eq_true rfl) (Nat.le_of_ble_eq_true rfl)) [0, 1, 2] [] rfl rfl (by decide) (by decide) rfl rfl (fun r_137 u_138 h_139 => ?_)
        have e_140 : r_137 = f_X10_readingOf_r f_135 2 2 := h_139
        refine sw_eq (ws' := [(h0, .inr (10, [.ref b0, .ref b1, .int np, .int th, .long hh])), (b0, .inl (G.2.1.2, 344, .inr (.inl f_135))), (b1, .inl (G.2.1.2, 1032, .inr (.inl P)))]) (lv' := [(2, .long 0), (1, .int 2), (0, .ref h0)]) (st' := [.long r_137, .long x_136, .int 20, .ref b0]) rfl rfl rfl ?_
        refine sw_aload_n (pc := 83) F dX10_senses_83 rfl 2 rfl ?_
        refine sw_get (pc := 84) (Cn := RX10) (T := TX10) (N := 5) (ci := 10) (v := .ref b0) F in10 0 rfl rfl 0 (by decide) rfl (List.mem_of_getElem? (i := 1) rfl) rfl dX10_senses_84 ?_
        refine sw_bipush (pc := 87) (v := 18) F dX10_senses_87 rfl ?_
        refine sw_iload_n (pc := 89) F dX10_senses_89 rfl 1 rfl ?_
        refine sw_iadd (pc := 90) F dX10_senses_90 ?_
        refine sw_eqt (v := .int 20) (by rfl) ?_
        refine sw_lald (pc := 91) F 1 rfl (sw_in rfl) dX10_senses_91 ?_
        refine sw_naml (e := f_135 20) rfl (fun x_141 ex_141 => ?_)
        refine sw_lsub (pc := 92) F dX10_senses_92 ?_
        refine sw_topl (fun x_142 ex_142 => ?_)
        refine sw_lconst (pc := 93) (v := 1) F dX10_senses_93 rfl ?_
        refine sw_aload_n (pc := 94) F dX10_senses_94 rfl 2 rfl ?_
        refine sw_get (pc := 95) (Cn := RX10) (T := TX10) (N := 5) (ci := 10) (v := .ref b0) F in10 0 rfl rfl 0 (by decide) rfl (List.mem_of_getElem? (i := 1) rfl) rfl dX10_senses_95 ?_
        refine sw_bipush (pc := 98) (v := 10) F dX10_senses_98 rfl ?_
        refine sw_iload_n (pc := 100) F dX10_senses_100 rfl 1 rfl ?_
        refine sw_iadd (pc := 101) F dX10_senses_101 ?_
        refine sw_eqt (v := .int 12) (by rfl) ?_
        refine sw_lald (pc := 102) F 1 rfl (sw_in rfl) dX10_senses_102 ?_
        refine sw_naml (e := f_135 12) rfl (fun x_143 ex_143 => ?_)
        refine sw_l2i (pc := 103) F dX10_senses_103 rfl ?_
        refine sw_lshl (pc := 104) F dX10_senses_104 ?_
        refine sw_topl (fun x_144 ex_144 => ?_)
        refine sw_calll (pc := 105) (wr := [(h0, .inr (10, [.ref b0, .ref b1, .int np, .int th, .long hh])), (b0, .inl (G.2.1.2, 344, .inr (.inl f_135))), (b1, .inl (G.2.1.2, 1032, .inr (.inl P)))]) (k' := 0) (n' := 0) F (sw_runS (R := ({ frames := 2, cells := 0, slots := 0, locals := 48 } : Room)) (na := 2) F T.2.1 T.2.2.1 (k_X10_floor l G x_142 x_144 (by rw [ex_144]; exact sh_nz (by rw [ex_143]; exact (mf_135).2 2 (by decide)))) [] rfl (by decide) gX10_senses_X10_floor rfl rfl rfl (by decide +kernel) ⟨Nat.le_of_ble_eq_true rfl, Nat.le_of_ble_eq_true rfl⟩ rfl rfl (Nat.le_of_ble_eq_true rfl) dX10_senses_105 (Nat.le_of_ble_eq_true rfl) (Nat.le_of_ble_eq_true rfl)) [] [0, 1, 2] rfl rfl (by decide) (by decide) rfl rfl (fun r_145 u_146 h_147 => ?_)
        have e_148 : r_145 = f_X10_floor_r x_142 x_144 := h_147
        refine sw_eq (ws' := [(h0, .inr (10, [.ref b0, .ref b1, .int np, .int th, .long hh])), (b0, .inl (G.2.1.2, 344, .inr (.inl f_135))), (b1, .inl (G.2.1.2, 1032, .inr (.inl P)))]) (lv' := [(2, .long 0), (1, .int 2), (0, .ref h0)]) (st' := [.long r_145, .long x_136, .int 20, .ref b0]) rfl rfl rfl ?_
        refine sw_ladd (pc := 108) F dX10_senses_108 ?_
        refine sw_topl (fun x_149 ex_149 => ?_)
        obtain ⟨f_150, ef_150⟩ : ∃ y : Nat → Int64, y = vp_updL f_135 20 x_149 := ⟨_, rfl⟩
        refine sw_last (pc := 109) (ws' := [(h0, .inr (10, [.ref b0, .ref b1, .int np, .int th, .long hh])), (b0, .inl (G.2.1.2, 344, .inr (.inl f_150))), (b1, .inl (G.2.1.2, 1032, .inr (.inl P)))]) F 1 rfl (sw_in rfl) dX10_senses_109 (by rw [ef_150]; rfl) ?_
        have mf_150 : mI f_150 := by rw [ef_150]; exact mI_u mf_135 (by decide)
        refine sw_iinc (pc := 110) (v := 3) (lv' := [(1, .int 3), (2, .long 0), (0, .ref h0)]) F T.1 dX10_senses_110 (q := 1) rfl rfl (by decide) rfl ?_
        refine sw_goto (pc := 113) (tgt := 2) F dX10_senses_113 (by decide) ?_
        refine sw_lvs (is := [0, 2]) (lv' := [(1, .int 3), (0, .ref h0)]) rfl ?_
        subst ef_150
        subst ex_149
        subst e_148
        subst ex_144
        subst ex_143
        subst ex_142
        subst ex_141
        subst e_140
        subst ex_136
        subst ef_135
        subst e_134
        subst ex_112
        subst e_110
        exact J4 _ (by rw [← hS3]; unfold g_X10_senses_3; rw [if_pos c_111, if_neg c_113]) mf_150
    · skip
      refine sw_lconst (pc := 15) (v := 1) F dX10_senses_15 rfl ?_
      refine sw_goto (pc := 16) (tgt := 20) F dX10_senses_16 (by decide) ?_
      refine sw_lstore_n (pc := 20) (lv' := [(2, .long 1), (1, .int 2), (0, .ref h0)]) F T.1 dX10_senses_20 rfl (by decide) rfl ?_
      refine sw_lload_n (pc := 21) F dX10_senses_21 rfl 0 rfl ?_
      refine sw_aload_n (pc := 22) F dX10_senses_22 rfl 2 rfl ?_
      refine sw_get (pc := 23) (Cn := RX10) (T := TX10) (N := 5) (ci := 10) (v := .ref b0) F in10 0 rfl rfl 0 (by decide) rfl (List.mem_of_getElem? (i := 1) rfl) rfl dX10_senses_23 ?_
      refine sw_bipush (pc := 26) (v := 22) F dX10_senses_26 rfl ?_
      refine sw_iload_n (pc := 28) F dX10_senses_28 rfl 1 rfl ?_
      refine sw_iadd (pc := 29) F dX10_senses_29 ?_
      refine sw_eqt (v := .int 24) (by rfl) ?_
      refine sw_lald (pc := 30) F 1 rfl (sw_in rfl) dX10_senses_30 ?_
      refine sw_naml (e := S3 24) rfl (fun x_151 ex_151 => ?_)
      refine sw_lcmp_eq (pc := 31) (tgt := 52) F dX10_senses_31 dX10_senses_32 (by decide) (fun c_152 => ?_) (fun c_152 => ?_)
      · skip
        refine sw_aload_n (pc := 52) F dX10_senses_52 rfl 2 rfl ?_
        refine sw_get (pc := 53) (Cn := RX10) (T := TX10) (N := 5) (ci := 10) (v := .ref b0) F in10 0 rfl rfl 0 (by decide) rfl (List.mem_of_getElem? (i := 1) rfl) rfl dX10_senses_53 ?_
        refine sw_bipush (pc := 56) (v := 22) F dX10_senses_56 rfl ?_
        refine sw_iload_n (pc := 58) F dX10_senses_58 rfl 1 rfl ?_
        refine sw_iadd (pc := 59) F dX10_senses_59 ?_
        refine sw_eqt (v := .int 24) (by rfl) ?_
        refine sw_lload_n (pc := 60) F dX10_senses_60 rfl 0 rfl ?_
        obtain ⟨f_153, ef_153⟩ : ∃ y : Nat → Int64, y = vp_updL S3 24 1 := ⟨_, rfl⟩
        refine sw_last (pc := 61) (ws' := [(h0, .inr (10, [.ref b0, .ref b1, .int np, .int th, .long hh])), (b0, .inl (G.2.1.2, 344, .inr (.inl f_153))), (b1, .inl (G.2.1.2, 1032, .inr (.inl P)))]) F 1 rfl (sw_in rfl) dX10_senses_61 (by rw [ef_153]; rfl) ?_
        have mf_153 : mI f_153 := by rw [ef_153]; exact mI_u hm3 (by decide)
        refine sw_lload_n (pc := 62) F dX10_senses_62 rfl 0 rfl ?_
        refine sw_lconst (pc := 63) (v := 0) F dX10_senses_63 rfl ?_
        refine sw_lcmp_ne (pc := 64) (tgt := 110) F dX10_senses_64 dX10_senses_65 (by decide) (fun _ => ?_) (fun c => absurd c (by decide))
        refine sw_iinc (pc := 110) (v := 3) (lv' := [(1, .int 3), (2, .long 1), (0, .ref h0)]) F T.1 dX10_senses_110 (q := 1) rfl rfl (by decide) rfl ?_
        refine sw_goto (pc := 113) (tgt := 2) F dX10_senses_113 (by decide) ?_
        refine sw_lvs (is := [0, 2]) (lv' := [(1, .int 3), (0, .ref h0)]) rfl ?_
        subst ef_153
        subst ex_151
        subst e_110
        exact J4 _ (by rw [← hS3]; unfold g_X10_senses_3; rw [if_neg c_111, if_pos c_152]) mf_153
      · skip
        refine sw_aload_n (pc := 35) F dX10_senses_35 rfl 2 rfl ?_
        refine sw_lload_n (pc := 36) F dX10_senses_36 rfl 0 rfl ?_
        refine sw_lconst (pc := 37) (v := 1) F dX10_senses_37 rfl ?_
        refine sw_lcmp_ne (pc := 38) (tgt := 46) F dX10_senses_38 dX10_senses_39 (by decide) (fun c => absurd c (by decide)) (fun _ => ?_)
        refine sw_iconst (pc := 42) (v := 0) F dX10_senses_42 rfl ?_
        refine sw_goto (pc := 43) (tgt := 47) F dX10_senses_43 (by decide) ?_
        refine sw_iload_n (pc := 47) F dX10_senses_47 rfl 1 rfl ?_
        refine sw_i2l (pc := 48) (v := 2) F dX10_senses_48 rfl ?_
        refine sw_callv (pc := 49) (wr := []) (k' := 0) (n' := 0) F (sw_runV (R := ({ frames := 2, cells := 0, slots := 0, locals := 48 } : Room)) (q0 := 0) (na := 2) F T.2.1 T.2.2.1 (k_X10_logs l G h0 b0 b1 np th hh S3 P 0 2 (hm3).1) [0, 1, 2] rfl (by decide) gX10_senses_X10_logs rfl rfl rfl (by decide +kernel) ⟨Nat.le_of_ble_eq_true rfl, Nat.le_of_ble_eq_true rfl⟩ rfl rfl rfl rfl rfl (Nat.le_of_ble_eq_true rfl) dX10_senses_49 (Nat.le_of_ble_eq_true rfl) (Nat.le_of_ble_eq_true rfl)) [0, 1, 2] [] rfl rfl (by decide) (by decide) rfl rfl (fun u_155 h_156 => ?_)
        obtain ⟨o_157, eu_155⟩ : ∃ z, z = u_155 := ⟨_, rfl⟩; subst eu_155
        have e_158 : o_157 = f_X10_logs_o1 S3 0 2 := h_156
        have mo_157 : mI o_157 := by rw [e_158]; exact mI_l hm3
        refine sw_eq (ws' := [(h0, .inr (10, [.ref b0, .ref b1, .int np, .int th, .long hh])), (b0, .inl (G.2.1.2, 344, .inr (.inl o_157))), (b1, .inl (G.2.1.2, 1032, .inr (.inl P)))]) (lv' := [(2, .long 1), (1, .int 2), (0, .ref h0)]) (st' := []) rfl rfl rfl ?_
        refine sw_aload_n (pc := 52) F dX10_senses_52 rfl 2 rfl ?_
        refine sw_get (pc := 53) (Cn := RX10) (T := TX10) (N := 5) (ci := 10) (v := .ref b0) F in10 0 rfl rfl 0 (by decide) rfl (List.mem_of_getElem? (i := 1) rfl) rfl dX10_senses_53 ?_
        refine sw_bipush (pc := 56) (v := 22) F dX10_senses_56 rfl ?_
        refine sw_iload_n (pc := 58) F dX10_senses_58 rfl 1 rfl ?_
        refine sw_iadd (pc := 59) F dX10_senses_59 ?_
        refine sw_eqt (v := .int 24) (by rfl) ?_
        refine sw_lload_n (pc := 60) F dX10_senses_60 rfl 0 rfl ?_
        obtain ⟨f_159, ef_159⟩ : ∃ y : Nat → Int64, y = vp_updL o_157 24 1 := ⟨_, rfl⟩
        refine sw_last (pc := 61) (ws' := [(h0, .inr (10, [.ref b0, .ref b1, .int np, .int th, .long hh])), (b0, .inl (G.2.1.2, 344, .inr (.inl f_159))), (b1, .inl (G.2.1.2, 1032, .inr (.inl P)))]) F 1 rfl (sw_in rfl) dX10_senses_61 (by rw [ef_159]; rfl) ?_
        have mf_159 : mI f_159 := by rw [ef_159]; exact mI_u mo_157 (by decide)
        refine sw_lload_n (pc := 62) F dX10_senses_62 rfl 0 rfl ?_
        refine sw_lconst (pc := 63) (v := 0) F dX10_senses_63 rfl ?_
        refine sw_lcmp_ne (pc := 64) (tgt := 110) F dX10_senses_64 dX10_senses_65 (by decide) (fun _ => ?_) (fun c => absurd c (by decide))
        refine sw_iinc (pc := 110) (v := 3) (lv' := [(1, .int 3), (2, .long 1), (0, .ref h0)]) F T.1 dX10_senses_110 (q := 1) rfl rfl (by decide) rfl ?_
        refine sw_goto (pc := 113) (tgt := 2) F dX10_senses_113 (by decide) ?_
        refine sw_lvs (is := [0, 2]) (lv' := [(1, .int 3), (0, .ref h0)]) rfl ?_
        subst ef_159
        subst e_158
        subst ex_151
        subst e_110
        exact J4 _ (by rw [← hS3]; unfold g_X10_senses_3; rw [if_neg c_111, if_neg c_152]) mf_159
  have J2 : ∀ (S2 : Nat → Int64), S2 = (g_X10_senses_1 (g_X10_senses_0 S)) → mI S2 → SW G C 0 0 [(h0, .inr (10, [.ref b0, .ref b1, .int np, .int th, .long hh])), (b0, .inl (G.2.1.2, 344, .inr (.inl S2))), (b1, .inl (G.2.1.2, 1032, .inr (.inl P)))] [(1, .int 1), (0, .ref h0)] 2 [] := by
    intro S2 hS2 hm2
    refine sw_iload_n (pc := 2) F dX10_senses_2 rfl 0 rfl ?_
    refine sw_iconst (pc := 3) (v := 4) F dX10_senses_3 rfl ?_
    refine sw_icmp_ge (pc := 4) (tgt := 116) F dX10_senses_4 (by decide) (fun c => absurd c (by decide)) (fun _ => ?_)
    refine sw_aload_n (pc := 7) F dX10_senses_7 rfl 1 rfl ?_
    refine sw_iload_n (pc := 8) F dX10_senses_8 rfl 0 rfl ?_
    refine sw_calli (pc := 9) (wr := []) (k' := 0) (n' := 0) F (sw_runV (R := ({ frames := 2, cells := 0, slots := 0, locals := 48 } : Room)) (q0 := 0) (na := 1) F T.2.1 T.2.2.1 (k_X10_isFaulty l G h0 b0 b1 np th hh S2 P 1 1 rfl (by omega)) [0, 1, 2] rfl (by decide) gX10_senses_X10_isFaulty rfl rfl rfl (by decide +kernel) ⟨Nat.le_of_ble_eq_true rfl, Nat.le_of_ble_eq_true rfl⟩ rfl rfl rfl rfl rfl (Nat.le_of_ble_eq_true rfl) dX10_senses_9 (Nat.le_of_ble_eq_true rfl) (Nat.le_of_ble_eq_true rfl)) [0, 1, 2] [] rfl rfl (by decide) (by decide) rfl rfl (fun r_54 u_55 h_56 => ?_)
    have e_57 : r_54 = f_X10_isFaulty_r S2 1 := h_56
    refine sw_eq (ws' := [(h0, .inr (10, [.ref b0, .ref b1, .int np, .int th, .long hh])), (b0, .inl (G.2.1.2, 344, .inr (.inl S2))), (b1, .inl (G.2.1.2, 1032, .inr (.inl P)))]) (lv' := [(1, .int 1), (0, .ref h0)]) (st' := [.int r_54]) rfl rfl rfl ?_
    refine sw_if_eq (pc := 12) (tgt := 19) F dX10_senses_12 (by decide) (fun c_58 => ?_) (fun c_58 => ?_)
    · skip
      refine sw_lconst (pc := 19) (v := 0) F dX10_senses_19 rfl ?_
      refine sw_lstore_n (pc := 20) (lv' := [(2, .long 0), (1, .int 1), (0, .ref h0)]) F T.1 dX10_senses_20 rfl (by decide) rfl ?_
      refine sw_lload_n (pc := 21) F dX10_senses_21 rfl 0 rfl ?_
      refine sw_aload_n (pc := 22) F dX10_senses_22 rfl 2 rfl ?_
      refine sw_get (pc := 23) (Cn := RX10) (T := TX10) (N := 5) (ci := 10) (v := .ref b0) F in10 0 rfl rfl 0 (by decide) rfl (List.mem_of_getElem? (i := 1) rfl) rfl dX10_senses_23 ?_
      refine sw_bipush (pc := 26) (v := 22) F dX10_senses_26 rfl ?_
      refine sw_iload_n (pc := 28) F dX10_senses_28 rfl 1 rfl ?_
      refine sw_iadd (pc := 29) F dX10_senses_29 ?_
      refine sw_eqt (v := .int 23) (by rfl) ?_
      refine sw_lald (pc := 30) F 1 rfl (sw_in rfl) dX10_senses_30 ?_
      refine sw_naml (e := S2 23) rfl (fun x_59 ex_59 => ?_)
      refine sw_lcmp_eq (pc := 31) (tgt := 52) F dX10_senses_31 dX10_senses_32 (by decide) (fun c_60 => ?_) (fun c_60 => ?_)
      · skip
        refine sw_aload_n (pc := 52) F dX10_senses_52 rfl 2 rfl ?_
        refine sw_get (pc := 53) (Cn := RX10) (T := TX10) (N := 5) (ci := 10) (v := .ref b0) F in10 0 rfl rfl 0 (by decide) rfl (List.mem_of_getElem? (i := 1) rfl) rfl dX10_senses_53 ?_
        refine sw_bipush (pc := 56) (v := 22) F dX10_senses_56 rfl ?_
        refine sw_iload_n (pc := 58) F dX10_senses_58 rfl 1 rfl ?_
        refine sw_iadd (pc := 59) F dX10_senses_59 ?_
        refine sw_eqt (v := .int 23) (by rfl) ?_
        refine sw_lload_n (pc := 60) F dX10_senses_60 rfl 0 rfl ?_
        obtain ⟨f_61, ef_61⟩ : ∃ y : Nat → Int64, y = vp_updL S2 23 0 := ⟨_, rfl⟩
        refine sw_last (pc := 61) (ws' := [(h0, .inr (10, [.ref b0, .ref b1, .int np, .int th, .long hh])), (b0, .inl (G.2.1.2, 344, .inr (.inl f_61))), (b1, .inl (G.2.1.2, 1032, .inr (.inl P)))]) F 1 rfl (sw_in rfl) dX10_senses_61 (by rw [ef_61]; rfl) ?_
        have mf_61 : mI f_61 := by rw [ef_61]; exact mI_u hm2 (by decide)
        refine sw_lload_n (pc := 62) F dX10_senses_62 rfl 0 rfl ?_
        refine sw_lconst (pc := 63) (v := 0) F dX10_senses_63 rfl ?_
        refine sw_lcmp_ne (pc := 64) (tgt := 110) F dX10_senses_64 dX10_senses_65 (by decide) (fun c => absurd c (by decide)) (fun _ => ?_)
        refine sw_aload_n (pc := 68) F dX10_senses_68 rfl 2 rfl ?_
        refine sw_get (pc := 69) (Cn := RX10) (T := TX10) (N := 5) (ci := 10) (v := .ref b0) F in10 0 rfl rfl 0 (by decide) rfl (List.mem_of_getElem? (i := 1) rfl) rfl dX10_senses_69 ?_
        refine sw_bipush (pc := 72) (v := 18) F dX10_senses_72 rfl ?_
        refine sw_iload_n (pc := 74) F dX10_senses_74 rfl 1 rfl ?_
        refine sw_iadd (pc := 75) F dX10_senses_75 ?_
        refine sw_eqt (v := .int 19) (by rfl) ?_
        refine sw_dup2 (pc := 76) F dX10_senses_76 rfl rfl ?_
        refine sw_lald (pc := 77) F 1 rfl (sw_in rfl) dX10_senses_77 ?_
        refine sw_naml (e := f_61 19) rfl (fun x_62 ex_62 => ?_)
        refine sw_aload_n (pc := 78) F dX10_senses_78 rfl 2 rfl ?_
        refine sw_iload_n (pc := 79) F dX10_senses_79 rfl 1 rfl ?_
        refine sw_calll (pc := 80) (wr := []) (k' := 0) (n' := 0) F (sw_runV (R := ({ frames := 2, cells := 0, slots := 0, locals := 48 } : Room)) (q0 := 0) (na := 1) F T.2.1 T.2.2.1 (k_X10_readingOf l G h0 b0 b1 np th hh f_61 P 1 1 rfl (by omega)) [0, 1, 2] rfl (by decide) gX10_senses_X10_readingOf rfl rfl rfl (by decide +kernel) ⟨Nat.le_of_ble_eq_true rfl, Nat.le_of_ble_eq_true rfl⟩ rfl rfl rfl rfl rfl (Nat.le_of_ble_eq_true rfl) dX10_senses_80 (Nat.le_of_ble_eq_true rfl) (Nat.le_of_ble_eq_true rfl)) [0, 1, 2] [] rfl rfl (by decide) (by decide) rfl rfl (fun r_63 u_64 h_65 => ?_)
        have e_66 : r_63 = f_X10_readingOf_r f_61 1 1 := h_65
        refine sw_eq (ws' := [(h0, .inr (10, [.ref b0, .ref b1, .int np, .int th, .long hh])), (b0, .inl (G.2.1.2, 344, .inr (.inl f_61))), (b1, .inl (G.2.1.2, 1032, .inr (.inl P)))]) (lv' := [(2, .long 0), (1, .int 1), (0, .ref h0)]) (st' := [.long r_63, .long x_62, .int 19, .ref b0]) rfl rfl rfl ?_
        refine sw_aload_n (pc := 83) F dX10_senses_83 rfl 2 rfl ?_
        refine sw_get (pc := 84) (Cn := RX10) (T := TX10) (N := 5) (ci := 10) (v := .ref b0) F in10 0 rfl rfl 0 (by decide) rfl (List.mem_of_getElem? (i := 1) rfl) rfl dX10_senses_84 ?_
        refine sw_bipush (pc := 87) (v := 18) F dX10_senses_87 rfl ?_
        refine sw_iload_n (pc := 89) F dX10_senses_89 rfl 1 rfl ?_
        refine sw_iadd (pc := 90) F dX10_senses_90 ?_
        refine sw_eqt (v := .int 19) (by rfl) ?_
        refine sw_lald (pc := 91) F 1 rfl (sw_in rfl) dX10_senses_91 ?_
        refine sw_naml (e := f_61 19) rfl (fun x_67 ex_67 => ?_)
        refine sw_lsub (pc := 92) F dX10_senses_92 ?_
        refine sw_topl (fun x_68 ex_68 => ?_)
        refine sw_lconst (pc := 93) (v := 1) F dX10_senses_93 rfl ?_
        refine sw_aload_n (pc := 94) F dX10_senses_94 rfl 2 rfl ?_
        refine sw_get (pc := 95) (Cn := RX10) (T := TX10) (N := 5) (ci := 10) (v := .ref b0) F in10 0 rfl rfl 0 (by decide) rfl (List.mem_of_getElem? (i := 1) rfl) rfl dX10_senses_95 ?_
        refine sw_bipush (pc := 98) (v := 10) F dX10_senses_98 rfl ?_
        refine sw_iload_n (pc := 100) F dX10_senses_100 rfl 1 rfl ?_
        refine sw_iadd (pc := 101) F dX10_senses_101 ?_
        refine sw_eqt (v := .int 11) (by rfl) ?_
        refine sw_lald (pc := 102) F 1 rfl (sw_in rfl) dX10_senses_102 ?_
        refine sw_naml (e := f_61 11) rfl (fun x_69 ex_69 => ?_)
        refine sw_l2i (pc := 103) F dX10_senses_103 rfl ?_
        refine sw_lshl (pc := 104) F dX10_senses_104 ?_
        refine sw_topl (fun x_70 ex_70 => ?_)
        refine sw_calll (pc := 105) (wr := [(h0, .inr (10, [.ref b0, .ref b1, .int np, .int th, .long hh])), (b0, .inl (G.2.1.2, 344, .inr (.inl f_61))), (b1, .inl (G.2.1.2, 1032, .inr (.inl P)))]) (k' := 0) (n' := 0) F (sw_runS (R := ({ frames := 2, cells := 0, slots := 0, locals := 48 } : Room)) (na := 2) F T.2.1 T.2.2.1 (k_X10_floor l G x_68 x_70 (by rw [ex_70]; exact sh_nz (by rw [ex_69]; exact (mf_61).2 1 (by decide)))) [] rfl (by decide) gX10_senses_X10_floor rfl rfl rfl (by decide +kernel) ⟨Nat.le_of_ble_eq_true rfl, Nat.le_of_ble_eq_true rfl⟩ rfl rfl (Nat.le_of_ble_eq_true rfl) dX10_senses_105 (Nat.le_of_ble_eq_true rfl) (Nat.le_of_ble_eq_true rfl)) [] [0, 1, 2] rfl rfl (by decide) (by decide) rfl rfl (fun r_71 u_72 h_73 => ?_)
        have e_74 : r_71 = f_X10_floor_r x_68 x_70 := h_73
        refine sw_eq (ws' := [(h0, .inr (10, [.ref b0, .ref b1, .int np, .int th, .long hh])), (b0, .inl (G.2.1.2, 344, .inr (.inl f_61))), (b1, .inl (G.2.1.2, 1032, .inr (.inl P)))]) (lv' := [(2, .long 0), (1, .int 1), (0, .ref h0)]) (st' := [.long r_71, .long x_62, .int 19, .ref b0]) rfl rfl rfl ?_
        refine sw_ladd (pc := 108) F dX10_senses_108 ?_
        refine sw_topl (fun x_75 ex_75 => ?_)
        obtain ⟨f_76, ef_76⟩ : ∃ y : Nat → Int64, y = vp_updL f_61 19 x_75 := ⟨_, rfl⟩
        refine sw_last (pc := 109) (ws' := [(h0, .inr (10, [.ref b0, .ref b1, .int np, .int th, .long hh])), (b0, .inl (G.2.1.2, 344, .inr (.inl f_76))), (b1, .inl (G.2.1.2, 1032, .inr (.inl P)))]) F 1 rfl (sw_in rfl) dX10_senses_109 (by rw [ef_76]; rfl) ?_
        have mf_76 : mI f_76 := by rw [ef_76]; exact mI_u mf_61 (by decide)
        refine sw_iinc (pc := 110) (v := 2) (lv' := [(1, .int 2), (2, .long 0), (0, .ref h0)]) F T.1 dX10_senses_110 (q := 1) rfl rfl (by decide) rfl ?_
        refine sw_goto (pc := 113) (tgt := 2) F dX10_senses_113 (by decide) ?_
        refine sw_lvs (is := [0, 2]) (lv' := [(1, .int 2), (0, .ref h0)]) rfl ?_
        subst ef_76
        subst ex_75
        subst e_74
        subst ex_70
        subst ex_69
        subst ex_68
        subst ex_67
        subst e_66
        subst ex_62
        subst ef_61
        subst ex_59
        subst e_57
        exact J3 _ (by rw [← hS2]; unfold g_X10_senses_2; rw [if_pos c_58, if_pos c_60]) mf_76
      · skip
        refine sw_aload_n (pc := 35) F dX10_senses_35 rfl 2 rfl ?_
        refine sw_lload_n (pc := 36) F dX10_senses_36 rfl 0 rfl ?_
        refine sw_lconst (pc := 37) (v := 1) F dX10_senses_37 rfl ?_
        refine sw_lcmp_ne (pc := 38) (tgt := 46) F dX10_senses_38 dX10_senses_39 (by decide) (fun _ => ?_) (fun c => absurd c (by decide))
        refine sw_iconst (pc := 46) (v := 1) F dX10_senses_46 rfl ?_
        refine sw_iload_n (pc := 47) F dX10_senses_47 rfl 1 rfl ?_
        refine sw_i2l (pc := 48) (v := 1) F dX10_senses_48 rfl ?_
        refine sw_callv (pc := 49) (wr := []) (k' := 0) (n' := 0) F (sw_runV (R := ({ frames := 2, cells := 0, slots := 0, locals := 48 } : Room)) (q0 := 0) (na := 2) F T.2.1 T.2.2.1 (k_X10_logs l G h0 b0 b1 np th hh S2 P 1 1 (hm2).1) [0, 1, 2] rfl (by decide) gX10_senses_X10_logs rfl rfl rfl (by decide +kernel) ⟨Nat.le_of_ble_eq_true rfl, Nat.le_of_ble_eq_true rfl⟩ rfl rfl rfl rfl rfl (Nat.le_of_ble_eq_true rfl) dX10_senses_49 (Nat.le_of_ble_eq_true rfl) (Nat.le_of_ble_eq_true rfl)) [0, 1, 2] [] rfl rfl (by decide) (by decide) rfl rfl (fun u_78 h_79 => ?_)
        obtain ⟨o_80, eu_78⟩ : ∃ z, z = u_78 := ⟨_, rfl⟩; subst eu_78
        have e_81 : o_80 = f_X10_logs_o1 S2 1 1 := h_79
        have mo_80 : mI o_80 := by rw [e_81]; exact mI_l hm2
        refine sw_eq (ws' := [(h0, .inr (10, [.ref b0, .ref b1, .int np, .int th, .long hh])), (b0, .inl (G.2.1.2, 344, .inr (.inl o_80))), (b1, .inl (G.2.1.2, 1032, .inr (.inl P)))]) (lv' := [(2, .long 0), (1, .int 1), (0, .ref h0)]) (st' := []) rfl rfl rfl ?_
        refine sw_aload_n (pc := 52) F dX10_senses_52 rfl 2 rfl ?_
        refine sw_get (pc := 53) (Cn := RX10) (T := TX10) (N := 5) (ci := 10) (v := .ref b0) F in10 0 rfl rfl 0 (by decide) rfl (List.mem_of_getElem? (i := 1) rfl) rfl dX10_senses_53 ?_
        refine sw_bipush (pc := 56) (v := 22) F dX10_senses_56 rfl ?_
        refine sw_iload_n (pc := 58) F dX10_senses_58 rfl 1 rfl ?_
        refine sw_iadd (pc := 59) F dX10_senses_59 ?_
        refine sw_eqt (v := .int 23) (by rfl) ?_
        refine sw_lload_n (pc := 60) F dX10_senses_60 rfl 0 rfl ?_
        obtain ⟨f_82, ef_82⟩ : ∃ y : Nat → Int64, y = vp_updL o_80 23 0 := ⟨_, rfl⟩
        refine sw_last (pc := 61) (ws' := [(h0, .inr (10, [.ref b0, .ref b1, .int np, .int th, .long hh])), (b0, .inl (G.2.1.2, 344, .inr (.inl f_82))), (b1, .inl (G.2.1.2, 1032, .inr (.inl P)))]) F 1 rfl (sw_in rfl) dX10_senses_61 (by rw [ef_82]; rfl) ?_
        have mf_82 : mI f_82 := by rw [ef_82]; exact mI_u mo_80 (by decide)
        refine sw_lload_n (pc := 62) F dX10_senses_62 rfl 0 rfl ?_
        refine sw_lconst (pc := 63) (v := 0) F dX10_senses_63 rfl ?_
        refine sw_lcmp_ne (pc := 64) (tgt := 110) F dX10_senses_64 dX10_senses_65 (by decide) (fun c => absurd c (by decide)) (fun _ => ?_)
        refine sw_aload_n (pc := 68) F dX10_senses_68 rfl 2 rfl ?_
        refine sw_get (pc := 69) (Cn := RX10) (T := TX10) (N := 5) (ci := 10) (v := .ref b0) F in10 0 rfl rfl 0 (by decide) rfl (List.mem_of_getElem? (i := 1) rfl) rfl dX10_senses_69 ?_
        refine sw_bipush (pc := 72) (v := 18) F dX10_senses_72 rfl ?_
        refine sw_iload_n (pc := 74) F dX10_senses_74 rfl 1 rfl ?_
        refine sw_iadd (pc := 75) F dX10_senses_75 ?_
        refine sw_eqt (v := .int 19) (by rfl) ?_
        refine sw_dup2 (pc := 76) F dX10_senses_76 rfl rfl ?_
        refine sw_lald (pc := 77) F 1 rfl (sw_in rfl) dX10_senses_77 ?_
        refine sw_naml (e := f_82 19) rfl (fun x_83 ex_83 => ?_)
        refine sw_aload_n (pc := 78) F dX10_senses_78 rfl 2 rfl ?_
        refine sw_iload_n (pc := 79) F dX10_senses_79 rfl 1 rfl ?_
        refine sw_calll (pc := 80) (wr := []) (k' := 0) (n' := 0) F (sw_runV (R := ({ frames := 2, cells := 0, slots := 0, locals := 48 } : Room)) (q0 := 0) (na := 1) F T.2.1 T.2.2.1 (k_X10_readingOf l G h0 b0 b1 np th hh f_82 P 1 1 rfl (by omega)) [0, 1, 2] rfl (by decide) gX10_senses_X10_readingOf rfl rfl rfl (by decide +kernel) ⟨Nat.le_of_ble_eq_true rfl, Nat.le_of_ble_eq_true rfl⟩ rfl rfl rfl rfl rfl (Nat.le_of_ble_eq_true rfl) dX10_senses_80 (Nat.le_of_ble_eq_true rfl) (Nat.le_of_ble_eq_true rfl)) [0, 1, 2] [] rfl rfl (by decide) (by decide) rfl rfl (fun r_84 u_85 h_86 => ?_)
        have e_87 : r_84 = f_X10_readingOf_r f_82 1 1 := h_86
        refine sw_eq (ws' := [(h0, .inr (10, [.ref b0, .ref b1, .int np, .int th, .long hh])), (b0, .inl (G.2.1.2, 344, .inr (.inl f_82))), (b1, .inl (G.2.1.2, 1032, .inr (.inl P)))]) (lv' := [(2, .long 0), (1, .int 1), (0, .ref h0)]) (st' := [.long r_84, .long x_83, .int 19, .ref b0]) rfl rfl rfl ?_
        refine sw_aload_n (pc := 83) F dX10_senses_83 rfl 2 rfl ?_
        refine sw_get (pc := 84) (Cn := RX10) (T := TX10) (N := 5) (ci := 10) (v := .ref b0) F in10 0 rfl rfl 0 (by decide) rfl (List.mem_of_getElem? (i := 1) rfl) rfl dX10_senses_84 ?_
        refine sw_bipush (pc := 87) (v := 18) F dX10_senses_87 rfl ?_
        refine sw_iload_n (pc := 89) F dX10_senses_89 rfl 1 rfl ?_
        refine sw_iadd (pc := 90) F dX10_senses_90 ?_
        refine sw_eqt (v := .int 19) (by rfl) ?_
        refine sw_lald (pc := 91) F 1 rfl (sw_in rfl) dX10_senses_91 ?_
        refine sw_naml (e := f_82 19) rfl (fun x_88 ex_88 => ?_)
        refine sw_lsub (pc := 92) F dX10_senses_92 ?_
        refine sw_topl (fun x_89 ex_89 => ?_)
        refine sw_lconst (pc := 93) (v := 1) F dX10_senses_93 rfl ?_
        refine sw_aload_n (pc := 94) F dX10_senses_94 rfl 2 rfl ?_
        refine sw_get (pc := 95) (Cn := RX10) (T := TX10) (N := 5) (ci := 10) (v := .ref b0) F in10 0 rfl rfl 0 (by decide) rfl (List.mem_of_getElem? (i := 1) rfl) rfl dX10_senses_95 ?_
        refine sw_bipush (pc := 98) (v := 10) F dX10_senses_98 rfl ?_
        refine sw_iload_n (pc := 100) F dX10_senses_100 rfl 1 rfl ?_
        refine sw_iadd (pc := 101) F dX10_senses_101 ?_
        refine sw_eqt (v := .int 11) (by rfl) ?_
        refine sw_lald (pc := 102) F 1 rfl (sw_in rfl) dX10_senses_102 ?_
        refine sw_naml (e := f_82 11) rfl (fun x_90 ex_90 => ?_)
        refine sw_l2i (pc := 103) F dX10_senses_103 rfl ?_
        refine sw_lshl (pc := 104) F dX10_senses_104 ?_
        refine sw_topl (fun x_91 ex_91 => ?_)
        refine sw_calll (pc := 105) (wr := [(h0, .inr (10, [.ref b0, .ref b1, .int np, .int th, .long hh])), (b0, .inl (G.2.1.2, 344, .inr (.inl f_82))), (b1, .inl (G.2.1.2, 1032, .inr (.inl P)))]) (k' := 0) (n' := 0) F (sw_runS (R := ({ frames := 2, cells := 0, slots := 0, locals := 48 } : Room)) (na := 2) F T.2.1 T.2.2.1 (k_X10_floor l G x_89 x_91 (by rw [ex_91]; exact sh_nz (by rw [ex_90]; exact (mf_82).2 1 (by decide)))) [] rfl (by decide) gX10_senses_X10_floor rfl rfl rfl (by decide +kernel) ⟨Nat.le_of_ble_eq_true rfl, Nat.le_of_ble_eq_true rfl⟩ rfl rfl (Nat.le_of_ble_eq_true rfl) dX10_senses_105 (Nat.le_of_ble_eq_true rfl) (Nat.le_of_ble_eq_true rfl)) [] [0, 1, 2] rfl rfl (by decide) (by decide) rfl rfl (fun r_92 u_93 h_94 => ?_)
        have e_95 : r_92 = f_X10_floor_r x_89 x_91 := h_94
        refine sw_eq (ws' := [(h0, .inr (10, [.ref b0, .ref b1, .int np, .int th, .long hh])), (b0, .inl (G.2.1.2, 344, .inr (.inl f_82))), (b1, .inl (G.2.1.2, 1032, .inr (.inl P)))]) (lv' := [(2, .long 0), (1, .int 1), (0, .ref h0)]) (st' := [.long r_92, .long x_83, .int 19, .ref b0]) rfl rfl rfl ?_
        refine sw_ladd (pc := 108) F dX10_senses_108 ?_
        refine sw_topl (fun x_96 ex_96 => ?_)
        obtain ⟨f_97, ef_97⟩ : ∃ y : Nat → Int64, y = vp_updL f_82 19 x_96 := ⟨_, rfl⟩
        refine sw_last (pc := 109) (ws' := [(h0, .inr (10, [.ref b0, .ref b1, .int np, .int th, .long hh])), (b0, .inl (G.2.1.2, 344, .inr (.inl f_97))), (b1, .inl (G.2.1.2, 1032, .inr (.inl P)))]) F 1 rfl (sw_in rfl) dX10_senses_109 (by rw [ef_97]; rfl) ?_
        have mf_97 : mI f_97 := by rw [ef_97]; exact mI_u mf_82 (by decide)
        refine sw_iinc (pc := 110) (v := 2) (lv' := [(1, .int 2), (2, .long 0), (0, .ref h0)]) F T.1 dX10_senses_110 (q := 1) rfl rfl (by decide) rfl ?_
        refine sw_goto (pc := 113) (tgt := 2) F dX10_senses_113 (by decide) ?_
        refine sw_lvs (is := [0, 2]) (lv' := [(1, .int 2), (0, .ref h0)]) rfl ?_
        subst ef_97
        subst ex_96
        subst e_95
        subst ex_91
        subst ex_90
        subst ex_89
        subst ex_88
        subst e_87
        subst ex_83
        subst ef_82
        subst e_81
        subst ex_59
        subst e_57
        exact J3 _ (by rw [← hS2]; unfold g_X10_senses_2; rw [if_pos c_58, if_neg c_60]) mf_97
    · skip
      refine sw_lconst (pc := 15) (v := 1) F dX10_senses_15 rfl ?_
      refine sw_goto (pc := 16) (tgt := 20) F dX10_senses_16 (by decide) ?_
      refine sw_lstore_n (pc := 20) (lv' := [(2, .long 1), (1, .int 1), (0, .ref h0)]) F T.1 dX10_senses_20 rfl (by decide) rfl ?_
      refine sw_lload_n (pc := 21) F dX10_senses_21 rfl 0 rfl ?_
      refine sw_aload_n (pc := 22) F dX10_senses_22 rfl 2 rfl ?_
      refine sw_get (pc := 23) (Cn := RX10) (T := TX10) (N := 5) (ci := 10) (v := .ref b0) F in10 0 rfl rfl 0 (by decide) rfl (List.mem_of_getElem? (i := 1) rfl) rfl dX10_senses_23 ?_
      refine sw_bipush (pc := 26) (v := 22) F dX10_senses_26 rfl ?_
      refine sw_iload_n (pc := 28) F dX10_senses_28 rfl 1 rfl ?_
      refine sw_iadd (pc := 29) F dX10_senses_29 ?_
      refine sw_eqt (v := .int 23) (by rfl) ?_
      refine sw_lald (pc := 30) F 1 rfl (sw_in rfl) dX10_senses_30 ?_
      refine sw_naml (e := S2 23) rfl (fun x_98 ex_98 => ?_)
      refine sw_lcmp_eq (pc := 31) (tgt := 52) F dX10_senses_31 dX10_senses_32 (by decide) (fun c_99 => ?_) (fun c_99 => ?_)
      · skip
        refine sw_aload_n (pc := 52) F dX10_senses_52 rfl 2 rfl ?_
        refine sw_get (pc := 53) (Cn := RX10) (T := TX10) (N := 5) (ci := 10) (v := .ref b0) F in10 0 rfl rfl 0 (by decide) rfl (List.mem_of_getElem? (i := 1) rfl) rfl dX10_senses_53 ?_
        refine sw_bipush (pc := 56) (v := 22) F dX10_senses_56 rfl ?_
        refine sw_iload_n (pc := 58) F dX10_senses_58 rfl 1 rfl ?_
        refine sw_iadd (pc := 59) F dX10_senses_59 ?_
        refine sw_eqt (v := .int 23) (by rfl) ?_
        refine sw_lload_n (pc := 60) F dX10_senses_60 rfl 0 rfl ?_
        obtain ⟨f_100, ef_100⟩ : ∃ y : Nat → Int64, y = vp_updL S2 23 1 := ⟨_, rfl⟩
        refine sw_last (pc := 61) (ws' := [(h0, .inr (10, [.ref b0, .ref b1, .int np, .int th, .long hh])), (b0, .inl (G.2.1.2, 344, .inr (.inl f_100))), (b1, .inl (G.2.1.2, 1032, .inr (.inl P)))]) F 1 rfl (sw_in rfl) dX10_senses_61 (by rw [ef_100]; rfl) ?_
        have mf_100 : mI f_100 := by rw [ef_100]; exact mI_u hm2 (by decide)
        refine sw_lload_n (pc := 62) F dX10_senses_62 rfl 0 rfl ?_
        refine sw_lconst (pc := 63) (v := 0) F dX10_senses_63 rfl ?_
        refine sw_lcmp_ne (pc := 64) (tgt := 110) F dX10_senses_64 dX10_senses_65 (by decide) (fun _ => ?_) (fun c => absurd c (by decide))
        refine sw_iinc (pc := 110) (v := 2) (lv' := [(1, .int 2), (2, .long 1), (0, .ref h0)]) F T.1 dX10_senses_110 (q := 1) rfl rfl (by decide) rfl ?_
        refine sw_goto (pc := 113) (tgt := 2) F dX10_senses_113 (by decide) ?_
        refine sw_lvs (is := [0, 2]) (lv' := [(1, .int 2), (0, .ref h0)]) rfl ?_
        subst ef_100
        subst ex_98
        subst e_57
        exact J3 _ (by rw [← hS2]; unfold g_X10_senses_2; rw [if_neg c_58, if_pos c_99]) mf_100
      · skip
        refine sw_aload_n (pc := 35) F dX10_senses_35 rfl 2 rfl ?_
        refine sw_lload_n (pc := 36) F dX10_senses_36 rfl 0 rfl ?_
        refine sw_lconst (pc := 37) (v := 1) F dX10_senses_37 rfl ?_
        refine sw_lcmp_ne (pc := 38) (tgt := 46) F dX10_senses_38 dX10_senses_39 (by decide) (fun c => absurd c (by decide)) (fun _ => ?_)
        refine sw_iconst (pc := 42) (v := 0) F dX10_senses_42 rfl ?_
        refine sw_goto (pc := 43) (tgt := 47) F dX10_senses_43 (by decide) ?_
        refine sw_iload_n (pc := 47) F dX10_senses_47 rfl 1 rfl ?_
        refine sw_i2l (pc := 48) (v := 1) F dX10_senses_48 rfl ?_
        refine sw_callv (pc := 49) (wr := []) (k' := 0) (n' := 0) F (sw_runV (R := ({ frames := 2, cells := 0, slots := 0, locals := 48 } : Room)) (q0 := 0) (na := 2) F T.2.1 T.2.2.1 (k_X10_logs l G h0 b0 b1 np th hh S2 P 0 1 (hm2).1) [0, 1, 2] rfl (by decide) gX10_senses_X10_logs rfl rfl rfl (by decide +kernel) ⟨Nat.le_of_ble_eq_true rfl, Nat.le_of_ble_eq_true rfl⟩ rfl rfl rfl rfl rfl (Nat.le_of_ble_eq_true rfl) dX10_senses_49 (Nat.le_of_ble_eq_true rfl) (Nat.le_of_ble_eq_true rfl)) [0, 1, 2] [] rfl rfl (by decide) (by decide) rfl rfl (fun u_102 h_103 => ?_)
        obtain ⟨o_104, eu_102⟩ : ∃ z, z = u_102 := ⟨_, rfl⟩; subst eu_102
        have e_105 : o_104 = f_X10_logs_o1 S2 0 1 := h_103
        have mo_104 : mI o_104 := by rw [e_105]; exact mI_l hm2
        refine sw_eq (ws' := [(h0, .inr (10, [.ref b0, .ref b1, .int np, .int th, .long hh])), (b0, .inl (G.2.1.2, 344, .inr (.inl o_104))), (b1, .inl (G.2.1.2, 1032, .inr (.inl P)))]) (lv' := [(2, .long 1), (1, .int 1), (0, .ref h0)]) (st' := []) rfl rfl rfl ?_
        refine sw_aload_n (pc := 52) F dX10_senses_52 rfl 2 rfl ?_
        refine sw_get (pc := 53) (Cn := RX10) (T := TX10) (N := 5) (ci := 10) (v := .ref b0) F in10 0 rfl rfl 0 (by decide) rfl (List.mem_of_getElem? (i := 1) rfl) rfl dX10_senses_53 ?_
        refine sw_bipush (pc := 56) (v := 22) F dX10_senses_56 rfl ?_
        refine sw_iload_n (pc := 58) F dX10_senses_58 rfl 1 rfl ?_
        refine sw_iadd (pc := 59) F dX10_senses_59 ?_
        refine sw_eqt (v := .int 23) (by rfl) ?_
        refine sw_lload_n (pc := 60) F dX10_senses_60 rfl 0 rfl ?_
        obtain ⟨f_106, ef_106⟩ : ∃ y : Nat → Int64, y = vp_updL o_104 23 1 := ⟨_, rfl⟩
        refine sw_last (pc := 61) (ws' := [(h0, .inr (10, [.ref b0, .ref b1, .int np, .int th, .long hh])), (b0, .inl (G.2.1.2, 344, .inr (.inl f_106))), (b1, .inl (G.2.1.2, 1032, .inr (.inl P)))]) F 1 rfl (sw_in rfl) dX10_senses_61 (by rw [ef_106]; rfl) ?_
        have mf_106 : mI f_106 := by rw [ef_106]; exact mI_u mo_104 (by decide)
        refine sw_lload_n (pc := 62) F dX10_senses_62 rfl 0 rfl ?_
        refine sw_lconst (pc := 63) (v := 0) F dX10_senses_63 rfl ?_
        refine sw_lcmp_ne (pc := 64) (tgt := 110) F dX10_senses_64 dX10_senses_65 (by decide) (fun _ => ?_) (fun c => absurd c (by decide))
        refine sw_iinc (pc := 110) (v := 2) (lv' := [(1, .int 2), (2, .long 1), (0, .ref h0)]) F T.1 dX10_senses_110 (q := 1) rfl rfl (by decide) rfl ?_
        refine sw_goto (pc := 113) (tgt := 2) F dX10_senses_113 (by decide) ?_
        refine sw_lvs (is := [0, 2]) (lv' := [(1, .int 2), (0, .ref h0)]) rfl ?_
        subst ef_106
        subst e_105
        subst ex_98
        subst e_57
        exact J3 _ (by rw [← hS2]; unfold g_X10_senses_2; rw [if_neg c_58, if_neg c_99]) mf_106
  have J1 : ∀ (S1 : Nat → Int64), S1 = (g_X10_senses_0 S) → mI S1 → SW G C 0 0 [(h0, .inr (10, [.ref b0, .ref b1, .int np, .int th, .long hh])), (b0, .inl (G.2.1.2, 344, .inr (.inl S1))), (b1, .inl (G.2.1.2, 1032, .inr (.inl P)))] [(1, .int 0), (0, .ref h0)] 2 [] := by
    intro S1 hS1 hm1
    refine sw_iload_n (pc := 2) F dX10_senses_2 rfl 0 rfl ?_
    refine sw_iconst (pc := 3) (v := 4) F dX10_senses_3 rfl ?_
    refine sw_icmp_ge (pc := 4) (tgt := 116) F dX10_senses_4 (by decide) (fun c => absurd c (by decide)) (fun _ => ?_)
    refine sw_aload_n (pc := 7) F dX10_senses_7 rfl 1 rfl ?_
    refine sw_iload_n (pc := 8) F dX10_senses_8 rfl 0 rfl ?_
    refine sw_calli (pc := 9) (wr := []) (k' := 0) (n' := 0) F (sw_runV (R := ({ frames := 2, cells := 0, slots := 0, locals := 48 } : Room)) (q0 := 0) (na := 1) F T.2.1 T.2.2.1 (k_X10_isFaulty l G h0 b0 b1 np th hh S1 P 0 0 rfl (by omega)) [0, 1, 2] rfl (by decide) gX10_senses_X10_isFaulty rfl rfl rfl (by decide +kernel) ⟨Nat.le_of_ble_eq_true rfl, Nat.le_of_ble_eq_true rfl⟩ rfl rfl rfl rfl rfl (Nat.le_of_ble_eq_true rfl) dX10_senses_9 (Nat.le_of_ble_eq_true rfl) (Nat.le_of_ble_eq_true rfl)) [0, 1, 2] [] rfl rfl (by decide) (by decide) rfl rfl (fun r_1 u_2 h_3 => ?_)
    have e_4 : r_1 = f_X10_isFaulty_r S1 0 := h_3
    refine sw_eq (ws' := [(h0, .inr (10, [.ref b0, .ref b1, .int np, .int th, .long hh])), (b0, .inl (G.2.1.2, 344, .inr (.inl S1))), (b1, .inl (G.2.1.2, 1032, .inr (.inl P)))]) (lv' := [(1, .int 0), (0, .ref h0)]) (st' := [.int r_1]) rfl rfl rfl ?_
    refine sw_if_eq (pc := 12) (tgt := 19) F dX10_senses_12 (by decide) (fun c_5 => ?_) (fun c_5 => ?_)
    · skip
      refine sw_lconst (pc := 19) (v := 0) F dX10_senses_19 rfl ?_
      refine sw_lstore_n (pc := 20) (lv' := [(2, .long 0), (1, .int 0), (0, .ref h0)]) F T.1 dX10_senses_20 rfl (by decide) rfl ?_
      refine sw_lload_n (pc := 21) F dX10_senses_21 rfl 0 rfl ?_
      refine sw_aload_n (pc := 22) F dX10_senses_22 rfl 2 rfl ?_
      refine sw_get (pc := 23) (Cn := RX10) (T := TX10) (N := 5) (ci := 10) (v := .ref b0) F in10 0 rfl rfl 0 (by decide) rfl (List.mem_of_getElem? (i := 1) rfl) rfl dX10_senses_23 ?_
      refine sw_bipush (pc := 26) (v := 22) F dX10_senses_26 rfl ?_
      refine sw_iload_n (pc := 28) F dX10_senses_28 rfl 1 rfl ?_
      refine sw_iadd (pc := 29) F dX10_senses_29 ?_
      refine sw_eqt (v := .int 22) (by rfl) ?_
      refine sw_lald (pc := 30) F 1 rfl (sw_in rfl) dX10_senses_30 ?_
      refine sw_naml (e := S1 22) rfl (fun x_6 ex_6 => ?_)
      refine sw_lcmp_eq (pc := 31) (tgt := 52) F dX10_senses_31 dX10_senses_32 (by decide) (fun c_7 => ?_) (fun c_7 => ?_)
      · skip
        refine sw_aload_n (pc := 52) F dX10_senses_52 rfl 2 rfl ?_
        refine sw_get (pc := 53) (Cn := RX10) (T := TX10) (N := 5) (ci := 10) (v := .ref b0) F in10 0 rfl rfl 0 (by decide) rfl (List.mem_of_getElem? (i := 1) rfl) rfl dX10_senses_53 ?_
        refine sw_bipush (pc := 56) (v := 22) F dX10_senses_56 rfl ?_
        refine sw_iload_n (pc := 58) F dX10_senses_58 rfl 1 rfl ?_
        refine sw_iadd (pc := 59) F dX10_senses_59 ?_
        refine sw_eqt (v := .int 22) (by rfl) ?_
        refine sw_lload_n (pc := 60) F dX10_senses_60 rfl 0 rfl ?_
        obtain ⟨f_8, ef_8⟩ : ∃ y : Nat → Int64, y = vp_updL S1 22 0 := ⟨_, rfl⟩
        refine sw_last (pc := 61) (ws' := [(h0, .inr (10, [.ref b0, .ref b1, .int np, .int th, .long hh])), (b0, .inl (G.2.1.2, 344, .inr (.inl f_8))), (b1, .inl (G.2.1.2, 1032, .inr (.inl P)))]) F 1 rfl (sw_in rfl) dX10_senses_61 (by rw [ef_8]; rfl) ?_
        have mf_8 : mI f_8 := by rw [ef_8]; exact mI_u hm1 (by decide)
        refine sw_lload_n (pc := 62) F dX10_senses_62 rfl 0 rfl ?_
        refine sw_lconst (pc := 63) (v := 0) F dX10_senses_63 rfl ?_
        refine sw_lcmp_ne (pc := 64) (tgt := 110) F dX10_senses_64 dX10_senses_65 (by decide) (fun c => absurd c (by decide)) (fun _ => ?_)
        refine sw_aload_n (pc := 68) F dX10_senses_68 rfl 2 rfl ?_
        refine sw_get (pc := 69) (Cn := RX10) (T := TX10) (N := 5) (ci := 10) (v := .ref b0) F in10 0 rfl rfl 0 (by decide) rfl (List.mem_of_getElem? (i := 1) rfl) rfl dX10_senses_69 ?_
        refine sw_bipush (pc := 72) (v := 18) F dX10_senses_72 rfl ?_
        refine sw_iload_n (pc := 74) F dX10_senses_74 rfl 1 rfl ?_
        refine sw_iadd (pc := 75) F dX10_senses_75 ?_
        refine sw_eqt (v := .int 18) (by rfl) ?_
        refine sw_dup2 (pc := 76) F dX10_senses_76 rfl rfl ?_
        refine sw_lald (pc := 77) F 1 rfl (sw_in rfl) dX10_senses_77 ?_
        refine sw_naml (e := f_8 18) rfl (fun x_9 ex_9 => ?_)
        refine sw_aload_n (pc := 78) F dX10_senses_78 rfl 2 rfl ?_
        refine sw_iload_n (pc := 79) F dX10_senses_79 rfl 1 rfl ?_
        refine sw_calll (pc := 80) (wr := []) (k' := 0) (n' := 0) F (sw_runV (R := ({ frames := 2, cells := 0, slots := 0, locals := 48 } : Room)) (q0 := 0) (na := 1) F T.2.1 T.2.2.1 (k_X10_readingOf l G h0 b0 b1 np th hh f_8 P 0 0 rfl (by omega)) [0, 1, 2] rfl (by decide) gX10_senses_X10_readingOf rfl rfl rfl (by decide +kernel) ⟨Nat.le_of_ble_eq_true rfl, Nat.le_of_ble_eq_true rfl⟩ rfl rfl rfl rfl rfl (Nat.le_of_ble_eq_true rfl) dX10_senses_80 (Nat.le_of_ble_eq_true rfl) (Nat.le_of_ble_eq_true rfl)) [0, 1, 2] [] rfl rfl (by decide) (by decide) rfl rfl (fun r_10 u_11 h_12 => ?_)
        have e_13 : r_10 = f_X10_readingOf_r f_8 0 0 := h_12
        refine sw_eq (ws' := [(h0, .inr (10, [.ref b0, .ref b1, .int np, .int th, .long hh])), (b0, .inl (G.2.1.2, 344, .inr (.inl f_8))), (b1, .inl (G.2.1.2, 1032, .inr (.inl P)))]) (lv' := [(2, .long 0), (1, .int 0), (0, .ref h0)]) (st' := [.long r_10, .long x_9, .int 18, .ref b0]) rfl rfl rfl ?_
        refine sw_aload_n (pc := 83) F dX10_senses_83 rfl 2 rfl ?_
        refine sw_get (pc := 84) (Cn := RX10) (T := TX10) (N := 5) (ci := 10) (v := .ref b0) F in10 0 rfl rfl 0 (by decide) rfl (List.mem_of_getElem? (i := 1) rfl) rfl dX10_senses_84 ?_
        refine sw_bipush (pc := 87) (v := 18) F dX10_senses_87 rfl ?_
        refine sw_iload_n (pc := 89) F dX10_senses_89 rfl 1 rfl ?_
        refine sw_iadd (pc := 90) F dX10_senses_90 ?_
        refine sw_eqt (v := .int 18) (by rfl) ?_
        refine sw_lald (pc := 91) F 1 rfl (sw_in rfl) dX10_senses_91 ?_
        refine sw_naml (e := f_8 18) rfl (fun x_14 ex_14 => ?_)
        refine sw_lsub (pc := 92) F dX10_senses_92 ?_
        refine sw_topl (fun x_15 ex_15 => ?_)
        refine sw_lconst (pc := 93) (v := 1) F dX10_senses_93 rfl ?_
        refine sw_aload_n (pc := 94) F dX10_senses_94 rfl 2 rfl ?_
        refine sw_get (pc := 95) (Cn := RX10) (T := TX10) (N := 5) (ci := 10) (v := .ref b0) F in10 0 rfl rfl 0 (by decide) rfl (List.mem_of_getElem? (i := 1) rfl) rfl dX10_senses_95 ?_
        refine sw_bipush (pc := 98) (v := 10) F dX10_senses_98 rfl ?_
        refine sw_iload_n (pc := 100) F dX10_senses_100 rfl 1 rfl ?_
        refine sw_iadd (pc := 101) F dX10_senses_101 ?_
        refine sw_eqt (v := .int 10) (by rfl) ?_
        refine sw_lald (pc := 102) F 1 rfl (sw_in rfl) dX10_senses_102 ?_
        refine sw_naml (e := f_8 10) rfl (fun x_16 ex_16 => ?_)
        refine sw_l2i (pc := 103) F dX10_senses_103 rfl ?_
        refine sw_lshl (pc := 104) F dX10_senses_104 ?_
        refine sw_topl (fun x_17 ex_17 => ?_)
        refine sw_calll (pc := 105) (wr := [(h0, .inr (10, [.ref b0, .ref b1, .int np, .int th, .long hh])), (b0, .inl (G.2.1.2, 344, .inr (.inl f_8))), (b1, .inl (G.2.1.2, 1032, .inr (.inl P)))]) (k' := 0) (n' := 0) F (sw_runS (R := ({ frames := 2, cells := 0, slots := 0, locals := 48 } : Room)) (na := 2) F T.2.1 T.2.2.1 (k_X10_floor l G x_15 x_17 (by rw [ex_17]; exact sh_nz (by rw [ex_16]; exact (mf_8).2 0 (by decide)))) [] rfl (by decide) gX10_senses_X10_floor rfl rfl rfl (by decide +kernel) ⟨Nat.le_of_ble_eq_true rfl, Nat.le_of_ble_eq_true rfl⟩ rfl rfl (Nat.le_of_ble_eq_true rfl) dX10_senses_105 (Nat.le_of_ble_eq_true rfl) (Nat.le_of_ble_eq_true rfl)) [] [0, 1, 2] rfl rfl (by decide) (by decide) rfl rfl (fun r_18 u_19 h_20 => ?_)
        have e_21 : r_18 = f_X10_floor_r x_15 x_17 := h_20
        refine sw_eq (ws' := [(h0, .inr (10, [.ref b0, .ref b1, .int np, .int th, .long hh])), (b0, .inl (G.2.1.2, 344, .inr (.inl f_8))), (b1, .inl (G.2.1.2, 1032, .inr (.inl P)))]) (lv' := [(2, .long 0), (1, .int 0), (0, .ref h0)]) (st' := [.long r_18, .long x_9, .int 18, .ref b0]) rfl rfl rfl ?_
        refine sw_ladd (pc := 108) F dX10_senses_108 ?_
        refine sw_topl (fun x_22 ex_22 => ?_)
        obtain ⟨f_23, ef_23⟩ : ∃ y : Nat → Int64, y = vp_updL f_8 18 x_22 := ⟨_, rfl⟩
        refine sw_last (pc := 109) (ws' := [(h0, .inr (10, [.ref b0, .ref b1, .int np, .int th, .long hh])), (b0, .inl (G.2.1.2, 344, .inr (.inl f_23))), (b1, .inl (G.2.1.2, 1032, .inr (.inl P)))]) F 1 rfl (sw_in rfl) dX10_senses_109 (by rw [ef_23]; rfl) ?_
        have mf_23 : mI f_23 := by rw [ef_23]; exact mI_u mf_8 (by decide)
        refine sw_iinc (pc := 110) (v := 1) (lv' := [(1, .int 1), (2, .long 0), (0, .ref h0)]) F T.1 dX10_senses_110 (q := 1) rfl rfl (by decide) rfl ?_
        refine sw_goto (pc := 113) (tgt := 2) F dX10_senses_113 (by decide) ?_
        refine sw_lvs (is := [0, 2]) (lv' := [(1, .int 1), (0, .ref h0)]) rfl ?_
        subst ef_23
        subst ex_22
        subst e_21
        subst ex_17
        subst ex_16
        subst ex_15
        subst ex_14
        subst e_13
        subst ex_9
        subst ef_8
        subst ex_6
        subst e_4
        exact J2 _ (by rw [← hS1]; unfold g_X10_senses_1; rw [if_pos c_5, if_pos c_7]) mf_23
      · skip
        refine sw_aload_n (pc := 35) F dX10_senses_35 rfl 2 rfl ?_
        refine sw_lload_n (pc := 36) F dX10_senses_36 rfl 0 rfl ?_
        refine sw_lconst (pc := 37) (v := 1) F dX10_senses_37 rfl ?_
        refine sw_lcmp_ne (pc := 38) (tgt := 46) F dX10_senses_38 dX10_senses_39 (by decide) (fun _ => ?_) (fun c => absurd c (by decide))
        refine sw_iconst (pc := 46) (v := 1) F dX10_senses_46 rfl ?_
        refine sw_iload_n (pc := 47) F dX10_senses_47 rfl 1 rfl ?_
        refine sw_i2l (pc := 48) (v := 0) F dX10_senses_48 rfl ?_
        refine sw_callv (pc := 49) (wr := []) (k' := 0) (n' := 0) F (sw_runV (R := ({ frames := 2, cells := 0, slots := 0, locals := 48 } : Room)) (q0 := 0) (na := 2) F T.2.1 T.2.2.1 (k_X10_logs l G h0 b0 b1 np th hh S1 P 1 0 (hm1).1) [0, 1, 2] rfl (by decide) gX10_senses_X10_logs rfl rfl rfl (by decide +kernel) ⟨Nat.le_of_ble_eq_true rfl, Nat.le_of_ble_eq_true rfl⟩ rfl rfl rfl rfl rfl (Nat.le_of_ble_eq_true rfl) dX10_senses_49 (Nat.le_of_ble_eq_true rfl) (Nat.le_of_ble_eq_true rfl)) [0, 1, 2] [] rfl rfl (by decide) (by decide) rfl rfl (fun u_25 h_26 => ?_)
        obtain ⟨o_27, eu_25⟩ : ∃ z, z = u_25 := ⟨_, rfl⟩; subst eu_25
        have e_28 : o_27 = f_X10_logs_o1 S1 1 0 := h_26
        have mo_27 : mI o_27 := by rw [e_28]; exact mI_l hm1
        refine sw_eq (ws' := [(h0, .inr (10, [.ref b0, .ref b1, .int np, .int th, .long hh])), (b0, .inl (G.2.1.2, 344, .inr (.inl o_27))), (b1, .inl (G.2.1.2, 1032, .inr (.inl P)))]) (lv' := [(2, .long 0), (1, .int 0), (0, .ref h0)]) (st' := []) rfl rfl rfl ?_
        refine sw_aload_n (pc := 52) F dX10_senses_52 rfl 2 rfl ?_
        refine sw_get (pc := 53) (Cn := RX10) (T := TX10) (N := 5) (ci := 10) (v := .ref b0) F in10 0 rfl rfl 0 (by decide) rfl (List.mem_of_getElem? (i := 1) rfl) rfl dX10_senses_53 ?_
        refine sw_bipush (pc := 56) (v := 22) F dX10_senses_56 rfl ?_
        refine sw_iload_n (pc := 58) F dX10_senses_58 rfl 1 rfl ?_
        refine sw_iadd (pc := 59) F dX10_senses_59 ?_
        refine sw_eqt (v := .int 22) (by rfl) ?_
        refine sw_lload_n (pc := 60) F dX10_senses_60 rfl 0 rfl ?_
        obtain ⟨f_29, ef_29⟩ : ∃ y : Nat → Int64, y = vp_updL o_27 22 0 := ⟨_, rfl⟩
        refine sw_last (pc := 61) (ws' := [(h0, .inr (10, [.ref b0, .ref b1, .int np, .int th, .long hh])), (b0, .inl (G.2.1.2, 344, .inr (.inl f_29))), (b1, .inl (G.2.1.2, 1032, .inr (.inl P)))]) F 1 rfl (sw_in rfl) dX10_senses_61 (by rw [ef_29]; rfl) ?_
        have mf_29 : mI f_29 := by rw [ef_29]; exact mI_u mo_27 (by decide)
        refine sw_lload_n (pc := 62) F dX10_senses_62 rfl 0 rfl ?_
        refine sw_lconst (pc := 63) (v := 0) F dX10_senses_63 rfl ?_
        refine sw_lcmp_ne (pc := 64) (tgt := 110) F dX10_senses_64 dX10_senses_65 (by decide) (fun c => absurd c (by decide)) (fun _ => ?_)
        refine sw_aload_n (pc := 68) F dX10_senses_68 rfl 2 rfl ?_
        refine sw_get (pc := 69) (Cn := RX10) (T := TX10) (N := 5) (ci := 10) (v := .ref b0) F in10 0 rfl rfl 0 (by decide) rfl (List.mem_of_getElem? (i := 1) rfl) rfl dX10_senses_69 ?_
        refine sw_bipush (pc := 72) (v := 18) F dX10_senses_72 rfl ?_
        refine sw_iload_n (pc := 74) F dX10_senses_74 rfl 1 rfl ?_
        refine sw_iadd (pc := 75) F dX10_senses_75 ?_
        refine sw_eqt (v := .int 18) (by rfl) ?_
        refine sw_dup2 (pc := 76) F dX10_senses_76 rfl rfl ?_
        refine sw_lald (pc := 77) F 1 rfl (sw_in rfl) dX10_senses_77 ?_
        refine sw_naml (e := f_29 18) rfl (fun x_30 ex_30 => ?_)
        refine sw_aload_n (pc := 78) F dX10_senses_78 rfl 2 rfl ?_
        refine sw_iload_n (pc := 79) F dX10_senses_79 rfl 1 rfl ?_
        refine sw_calll (pc := 80) (wr := []) (k' := 0) (n' := 0) F (sw_runV (R := ({ frames := 2, cells := 0, slots := 0, locals := 48 } : Room)) (q0 := 0) (na := 1) F T.2.1 T.2.2.1 (k_X10_readingOf l G h0 b0 b1 np th hh f_29 P 0 0 rfl (by omega)) [0, 1, 2] rfl (by decide) gX10_senses_X10_readingOf rfl rfl rfl (by decide +kernel) ⟨Nat.le_of_ble_eq_true rfl, Nat.le_of_ble_eq_true rfl⟩ rfl rfl rfl rfl rfl (Nat.le_of_ble_eq_true rfl) dX10_senses_80 (Nat.le_of_ble_eq_true rfl) (Nat.le_of_ble_eq_true rfl)) [0, 1, 2] [] rfl rfl (by decide) (by decide) rfl rfl (fun r_31 u_32 h_33 => ?_)
        have e_34 : r_31 = f_X10_readingOf_r f_29 0 0 := h_33
        refine sw_eq (ws' := [(h0, .inr (10, [.ref b0, .ref b1, .int np, .int th, .long hh])), (b0, .inl (G.2.1.2, 344, .inr (.inl f_29))), (b1, .inl (G.2.1.2, 1032, .inr (.inl P)))]) (lv' := [(2, .long 0), (1, .int 0), (0, .ref h0)]) (st' := [.long r_31, .long x_30, .int 18, .ref b0]) rfl rfl rfl ?_
        refine sw_aload_n (pc := 83) F dX10_senses_83 rfl 2 rfl ?_
        refine sw_get (pc := 84) (Cn := RX10) (T := TX10) (N := 5) (ci := 10) (v := .ref b0) F in10 0 rfl rfl 0 (by decide) rfl (List.mem_of_getElem? (i := 1) rfl) rfl dX10_senses_84 ?_
        refine sw_bipush (pc := 87) (v := 18) F dX10_senses_87 rfl ?_
        refine sw_iload_n (pc := 89) F dX10_senses_89 rfl 1 rfl ?_
        refine sw_iadd (pc := 90) F dX10_senses_90 ?_
        refine sw_eqt (v := .int 18) (by rfl) ?_
        refine sw_lald (pc := 91) F 1 rfl (sw_in rfl) dX10_senses_91 ?_
        refine sw_naml (e := f_29 18) rfl (fun x_35 ex_35 => ?_)
        refine sw_lsub (pc := 92) F dX10_senses_92 ?_
        refine sw_topl (fun x_36 ex_36 => ?_)
        refine sw_lconst (pc := 93) (v := 1) F dX10_senses_93 rfl ?_
        refine sw_aload_n (pc := 94) F dX10_senses_94 rfl 2 rfl ?_
        refine sw_get (pc := 95) (Cn := RX10) (T := TX10) (N := 5) (ci := 10) (v := .ref b0) F in10 0 rfl rfl 0 (by decide) rfl (List.mem_of_getElem? (i := 1) rfl) rfl dX10_senses_95 ?_
        refine sw_bipush (pc := 98) (v := 10) F dX10_senses_98 rfl ?_
        refine sw_iload_n (pc := 100) F dX10_senses_100 rfl 1 rfl ?_
        refine sw_iadd (pc := 101) F dX10_senses_101 ?_
        refine sw_eqt (v := .int 10) (by rfl) ?_
        refine sw_lald (pc := 102) F 1 rfl (sw_in rfl) dX10_senses_102 ?_
        refine sw_naml (e := f_29 10) rfl (fun x_37 ex_37 => ?_)
        refine sw_l2i (pc := 103) F dX10_senses_103 rfl ?_
        refine sw_lshl (pc := 104) F dX10_senses_104 ?_
        refine sw_topl (fun x_38 ex_38 => ?_)
        refine sw_calll (pc := 105) (wr := [(h0, .inr (10, [.ref b0, .ref b1, .int np, .int th, .long hh])), (b0, .inl (G.2.1.2, 344, .inr (.inl f_29))), (b1, .inl (G.2.1.2, 1032, .inr (.inl P)))]) (k' := 0) (n' := 0) F (sw_runS (R := ({ frames := 2, cells := 0, slots := 0, locals := 48 } : Room)) (na := 2) F T.2.1 T.2.2.1 (k_X10_floor l G x_36 x_38 (by rw [ex_38]; exact sh_nz (by rw [ex_37]; exact (mf_29).2 0 (by decide)))) [] rfl (by decide) gX10_senses_X10_floor rfl rfl rfl (by decide +kernel) ⟨Nat.le_of_ble_eq_true rfl, Nat.le_of_ble_eq_true rfl⟩ rfl rfl (Nat.le_of_ble_eq_true rfl) dX10_senses_105 (Nat.le_of_ble_eq_true rfl) (Nat.le_of_ble_eq_true rfl)) [] [0, 1, 2] rfl rfl (by decide) (by decide) rfl rfl (fun r_39 u_40 h_41 => ?_)
        have e_42 : r_39 = f_X10_floor_r x_36 x_38 := h_41
        refine sw_eq (ws' := [(h0, .inr (10, [.ref b0, .ref b1, .int np, .int th, .long hh])), (b0, .inl (G.2.1.2, 344, .inr (.inl f_29))), (b1, .inl (G.2.1.2, 1032, .inr (.inl P)))]) (lv' := [(2, .long 0), (1, .int 0), (0, .ref h0)]) (st' := [.long r_39, .long x_30, .int 18, .ref b0]) rfl rfl rfl ?_
        refine sw_ladd (pc := 108) F dX10_senses_108 ?_
        refine sw_topl (fun x_43 ex_43 => ?_)
        obtain ⟨f_44, ef_44⟩ : ∃ y : Nat → Int64, y = vp_updL f_29 18 x_43 := ⟨_, rfl⟩
        refine sw_last (pc := 109) (ws' := [(h0, .inr (10, [.ref b0, .ref b1, .int np, .int th, .long hh])), (b0, .inl (G.2.1.2, 344, .inr (.inl f_44))), (b1, .inl (G.2.1.2, 1032, .inr (.inl P)))]) F 1 rfl (sw_in rfl) dX10_senses_109 (by rw [ef_44]; rfl) ?_
        have mf_44 : mI f_44 := by rw [ef_44]; exact mI_u mf_29 (by decide)
        refine sw_iinc (pc := 110) (v := 1) (lv' := [(1, .int 1), (2, .long 0), (0, .ref h0)]) F T.1 dX10_senses_110 (q := 1) rfl rfl (by decide) rfl ?_
        refine sw_goto (pc := 113) (tgt := 2) F dX10_senses_113 (by decide) ?_
        refine sw_lvs (is := [0, 2]) (lv' := [(1, .int 1), (0, .ref h0)]) rfl ?_
        subst ef_44
        subst ex_43
        subst e_42
        subst ex_38
        subst ex_37
        subst ex_36
        subst ex_35
        subst e_34
        subst ex_30
        subst ef_29
        subst e_28
        subst ex_6
        subst e_4
        exact J2 _ (by rw [← hS1]; unfold g_X10_senses_1; rw [if_pos c_5, if_neg c_7]) mf_44
    · skip
      refine sw_lconst (pc := 15) (v := 1) F dX10_senses_15 rfl ?_
      refine sw_goto (pc := 16) (tgt := 20) F dX10_senses_16 (by decide) ?_
      refine sw_lstore_n (pc := 20) (lv' := [(2, .long 1), (1, .int 0), (0, .ref h0)]) F T.1 dX10_senses_20 rfl (by decide) rfl ?_
      refine sw_lload_n (pc := 21) F dX10_senses_21 rfl 0 rfl ?_
      refine sw_aload_n (pc := 22) F dX10_senses_22 rfl 2 rfl ?_
      refine sw_get (pc := 23) (Cn := RX10) (T := TX10) (N := 5) (ci := 10) (v := .ref b0) F in10 0 rfl rfl 0 (by decide) rfl (List.mem_of_getElem? (i := 1) rfl) rfl dX10_senses_23 ?_
      refine sw_bipush (pc := 26) (v := 22) F dX10_senses_26 rfl ?_
      refine sw_iload_n (pc := 28) F dX10_senses_28 rfl 1 rfl ?_
      refine sw_iadd (pc := 29) F dX10_senses_29 ?_
      refine sw_eqt (v := .int 22) (by rfl) ?_
      refine sw_lald (pc := 30) F 1 rfl (sw_in rfl) dX10_senses_30 ?_
      refine sw_naml (e := S1 22) rfl (fun x_45 ex_45 => ?_)
      refine sw_lcmp_eq (pc := 31) (tgt := 52) F dX10_senses_31 dX10_senses_32 (by decide) (fun c_46 => ?_) (fun c_46 => ?_)
      · skip
        refine sw_aload_n (pc := 52) F dX10_senses_52 rfl 2 rfl ?_
        refine sw_get (pc := 53) (Cn := RX10) (T := TX10) (N := 5) (ci := 10) (v := .ref b0) F in10 0 rfl rfl 0 (by decide) rfl (List.mem_of_getElem? (i := 1) rfl) rfl dX10_senses_53 ?_
        refine sw_bipush (pc := 56) (v := 22) F dX10_senses_56 rfl ?_
        refine sw_iload_n (pc := 58) F dX10_senses_58 rfl 1 rfl ?_
        refine sw_iadd (pc := 59) F dX10_senses_59 ?_
        refine sw_eqt (v := .int 22) (by rfl) ?_
        refine sw_lload_n (pc := 60) F dX10_senses_60 rfl 0 rfl ?_
        obtain ⟨f_47, ef_47⟩ : ∃ y : Nat → Int64, y = vp_updL S1 22 1 := ⟨_, rfl⟩
        refine sw_last (pc := 61) (ws' := [(h0, .inr (10, [.ref b0, .ref b1, .int np, .int th, .long hh])), (b0, .inl (G.2.1.2, 344, .inr (.inl f_47))), (b1, .inl (G.2.1.2, 1032, .inr (.inl P)))]) F 1 rfl (sw_in rfl) dX10_senses_61 (by rw [ef_47]; rfl) ?_
        have mf_47 : mI f_47 := by rw [ef_47]; exact mI_u hm1 (by decide)
        refine sw_lload_n (pc := 62) F dX10_senses_62 rfl 0 rfl ?_
        refine sw_lconst (pc := 63) (v := 0) F dX10_senses_63 rfl ?_
        refine sw_lcmp_ne (pc := 64) (tgt := 110) F dX10_senses_64 dX10_senses_65 (by decide) (fun _ => ?_) (fun c => absurd c (by decide))
        refine sw_iinc (pc := 110) (v := 1) (lv' := [(1, .int 1), (2, .long 1), (0, .ref h0)]) F T.1 dX10_senses_110 (q := 1) rfl rfl (by decide) rfl ?_
        refine sw_goto (pc := 113) (tgt := 2) F dX10_senses_113 (by decide) ?_
        refine sw_lvs (is := [0, 2]) (lv' := [(1, .int 1), (0, .ref h0)]) rfl ?_
        subst ef_47
        subst ex_45
        subst e_4
        exact J2 _ (by rw [← hS1]; unfold g_X10_senses_1; rw [if_neg c_5, if_pos c_46]) mf_47
      · skip
        refine sw_aload_n (pc := 35) F dX10_senses_35 rfl 2 rfl ?_
        refine sw_lload_n (pc := 36) F dX10_senses_36 rfl 0 rfl ?_
        refine sw_lconst (pc := 37) (v := 1) F dX10_senses_37 rfl ?_
        refine sw_lcmp_ne (pc := 38) (tgt := 46) F dX10_senses_38 dX10_senses_39 (by decide) (fun c => absurd c (by decide)) (fun _ => ?_)
        refine sw_iconst (pc := 42) (v := 0) F dX10_senses_42 rfl ?_
        refine sw_goto (pc := 43) (tgt := 47) F dX10_senses_43 (by decide) ?_
        refine sw_iload_n (pc := 47) F dX10_senses_47 rfl 1 rfl ?_
        refine sw_i2l (pc := 48) (v := 0) F dX10_senses_48 rfl ?_
        refine sw_callv (pc := 49) (wr := []) (k' := 0) (n' := 0) F (sw_runV (R := ({ frames := 2, cells := 0, slots := 0, locals := 48 } : Room)) (q0 := 0) (na := 2) F T.2.1 T.2.2.1 (k_X10_logs l G h0 b0 b1 np th hh S1 P 0 0 (hm1).1) [0, 1, 2] rfl (by decide) gX10_senses_X10_logs rfl rfl rfl (by decide +kernel) ⟨Nat.le_of_ble_eq_true rfl, Nat.le_of_ble_eq_true rfl⟩ rfl rfl rfl rfl rfl (Nat.le_of_ble_eq_true rfl) dX10_senses_49 (Nat.le_of_ble_eq_true rfl) (Nat.le_of_ble_eq_true rfl)) [0, 1, 2] [] rfl rfl (by decide) (by decide) rfl rfl (fun u_49 h_50 => ?_)
        obtain ⟨o_51, eu_49⟩ : ∃ z, z = u_49 := ⟨_, rfl⟩; subst eu_49
        have e_52 : o_51 = f_X10_logs_o1 S1 0 0 := h_50
        have mo_51 : mI o_51 := by rw [e_52]; exact mI_l hm1
        refine sw_eq (ws' := [(h0, .inr (10, [.ref b0, .ref b1, .int np, .int th, .long hh])), (b0, .inl (G.2.1.2, 344, .inr (.inl o_51))), (b1, .inl (G.2.1.2, 1032, .inr (.inl P)))]) (lv' := [(2, .long 1), (1, .int 0), (0, .ref h0)]) (st' := []) rfl rfl rfl ?_
        refine sw_aload_n (pc := 52) F dX10_senses_52 rfl 2 rfl ?_
        refine sw_get (pc := 53) (Cn := RX10) (T := TX10) (N := 5) (ci := 10) (v := .ref b0) F in10 0 rfl rfl 0 (by decide) rfl (List.mem_of_getElem? (i := 1) rfl) rfl dX10_senses_53 ?_
        refine sw_bipush (pc := 56) (v := 22) F dX10_senses_56 rfl ?_
        refine sw_iload_n (pc := 58) F dX10_senses_58 rfl 1 rfl ?_
        refine sw_iadd (pc := 59) F dX10_senses_59 ?_
        refine sw_eqt (v := .int 22) (by rfl) ?_
        refine sw_lload_n (pc := 60) F dX10_senses_60 rfl 0 rfl ?_
        obtain ⟨f_53, ef_53⟩ : ∃ y : Nat → Int64, y = vp_updL o_51 22 1 := ⟨_, rfl⟩
        refine sw_last (pc := 61) (ws' := [(h0, .inr (10, [.ref b0, .ref b1, .int np, .int th, .long hh])), (b0, .inl (G.2.1.2, 344, .inr (.inl f_53))), (b1, .inl (G.2.1.2, 1032, .inr (.inl P)))]) F 1 rfl (sw_in rfl) dX10_senses_61 (by rw [ef_53]; rfl) ?_
        have mf_53 : mI f_53 := by rw [ef_53]; exact mI_u mo_51 (by decide)
        refine sw_lload_n (pc := 62) F dX10_senses_62 rfl 0 rfl ?_
        refine sw_lconst (pc := 63) (v := 0) F dX10_senses_63 rfl ?_
        refine sw_lcmp_ne (pc := 64) (tgt := 110) F dX10_senses_64 dX10_senses_65 (by decide) (fun _ => ?_) (fun c => absurd c (by decide))
        refine sw_iinc (pc := 110) (v := 1) (lv' := [(1, .int 1), (2, .long 1), (0, .ref h0)]) F T.1 dX10_senses_110 (q := 1) rfl rfl (by decide) rfl ?_
        refine sw_goto (pc := 113) (tgt := 2) F dX10_senses_113 (by decide) ?_
        refine sw_lvs (is := [0, 2]) (lv' := [(1, .int 1), (0, .ref h0)]) rfl ?_
        subst ef_53
        subst e_52
        subst ex_45
        subst e_4
        exact J2 _ (by rw [← hS1]; unfold g_X10_senses_1; rw [if_neg c_5, if_neg c_46]) mf_53
  refine sw_iconst (pc := 0) (v := 0) F dX10_senses_0 rfl ?_
  refine sw_istore_n (pc := 1) (lv' := [(1, .int 0), (0, .ref h0)]) F T.1 dX10_senses_1 rfl (by decide) rfl ?_
  refine sw_lvs (is := [0, 1]) (lv' := [(1, .int 0), (0, .ref h0)]) rfl ?_
  exact J1 _ rfl hm
