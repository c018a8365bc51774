set_option maxHeartbeats 4000000 in
set_option maxRecDepth 100000 in
theorem k_X10_save (l : Launch) (G : sw_E) (h0 : Nat) (b0 : Nat) (b1 : Nat) (np : Int32) (th : Int32) (hh : Int64) (S : Nat → Int64) (P : Nat → Int64) (Nn : Nat) (hnp : np = nI Nn) (hNn : Nn < 4) : sw_M l G yX10_save wsX10_save ({ frames := 0, cells := 0, slots := 0, locals := 0 } : Room) [.ref h0] [(h0, .inr (10, [.ref b0, .ref b1, .int np, .int th, .long hh])), (b0, .inl (G.2.1.2, 344, .inr (.inl S))), (b1, .inl (G.2.1.2, 1032, .inr (.inl P)))] (sw_QV G (S := Int32 × (Nat → Int64)) (fun (u : Int32 × (Nat → Int64)) => u.1 = nI (if Nn = 3 then 3 else Nn + 1) ∧ u.2 = md_save Nn S P) (fun u => [(h0, .inr (10, [.ref b0, .ref b1, .int u.1, .int 0, .long hh])), (b0, .inl (G.2.1.2, 344, .inr (.inl S))), (b1, .inl (G.2.1.2, 1032, .inr (.inl u.2)))])) 0 0 := by
  refine sw_start (cc := cX10_save) (maxL := 2) (ret := none) (lv := [(0, .ref h0)]) (own := RX10) (nm := "save") (by decide +kernel) rfl rfl rfl rfl (Nat.le_of_ble_eq_true rfl) (fun C F T => ?_)
  have in10 : ∀ w ∈ u_ws RX10 TX10 5, w ∈ wsX10_save := fun w h => List.mem_cons_of_mem _ (List.mem_append_right _ (h))
  rcases Decidable.em (Nn = 3) with h3 | h3
  · skip
    obtain ⟨np2, h2⟩ : ∃ z, z = nI 2 := ⟨_, rfl⟩
    have loop2 : ∀ (m n : Nat), m + n = 344 → SW G C 0 0 [(h0, .inr (10, [.ref b0, .ref b1, .int np2, .int 0, .long hh])), (b0, .inl (G.2.1.2, 344, .inr (.inl S))), (b1, .inl (G.2.1.2, 1032, .inr (.inl (md_s2 688 n S (md_s1 688 P)))))] [(1, .int (nI n)), (0, .ref h0)] 56 [] := by
      intro m
      induction m with
      | zero =>
        intro n hn
        refine sw_iload_n (pc := 56) F dX10_save_56 rfl 0 rfl ?_
        refine sw_sipush (pc := 57) (v := 344) F dX10_save_57 rfl ?_
        refine sw_icmp_ge (pc := 60) (tgt := 90) F dX10_save_60 (by decide) (fun _ => ?_) (fun c => absurd (nI_le (a := 344) (b := n) (by omega) (by omega)) c)
        refine sw_aload_n (pc := 90) F dX10_save_90 rfl 1 rfl ?_
        refine sw_dup (pc := 91) F dX10_save_91 rfl ?_
        refine sw_get (pc := 92) (Cn := RX10) (T := TX10) (N := 5) (ci := 10) (v := .int np2) F in10 0 rfl rfl 2 (by decide) rfl (List.mem_of_getElem? (i := 2) rfl) rfl dX10_save_92 ?_
        refine sw_iconst (pc := 95) (v := 1) F dX10_save_95 rfl ?_
        refine sw_iadd (pc := 96) F dX10_save_96 ?_
        refine sw_topi (fun x_1 ex_1 => ?_)
        have ix_1 : x_1 = nI (2 + 1) := by rw [ex_1, h2]; exact nI_add 2 1
        refine sw_put (pc := 97) (Cn := RX10) (T := TX10) (N := 5) (ci := 10) (ty0 := tyX10) (ws' := [(h0, .inr (10, [.ref b0, .ref b1, .int x_1, .int 0, .long hh])), (b0, .inl (G.2.1.2, 344, .inr (.inl S))), (b1, .inl (G.2.1.2, 1032, .inr (.inl (md_s2 688 n S (md_s1 688 P)))))]) F in10 tyX10_ok nmX10 0 rfl rfl 2 (by decide) rfl (List.mem_of_getElem? (i := 2) rfl) rfl rfl rfl (Nat.le_of_ble_eq_true rfl) dX10_save_97 rfl ?_
        subst ex_1
        refine sw_vret (pc := 100) F T (nI (if Nn = 3 then 3 else Nn + 1), md_save Nn S P) ⟨rfl, rfl⟩ ?_ dX10_save_100
        rw [if_pos h3, show md_save Nn S P = md_s2 688 n S (md_s1 688 P) by unfold md_save; rw [if_pos h3, show n = 344 by omega], show np2 + 1 = nI 3 by rw [h2]; exact nI_1 2]
      | succ m ih =>
        intro n hn
        obtain ⟨k, hk⟩ : ∃ z, z = nI n := ⟨_, rfl⟩
        rw [← hk]
        refine sw_iload_n (pc := 56) F dX10_save_56 rfl 0 rfl ?_
        refine sw_sipush (pc := 57) (v := 344) F dX10_save_57 rfl ?_
        refine sw_icmp_ge (pc := 60) (tgt := 90) F dX10_save_60 (by decide) (fun c => absurd c (by rw [hk]; exact nI_ge (a := n) (b := 344) (by omega) (by omega))) (fun _ => ?_)
        refine sw_aload_n (pc := 63) F dX10_save_63 rfl 1 rfl ?_
        refine sw_get (pc := 64) (Cn := RX10) (T := TX10) (N := 5) (ci := 10) (v := .ref b1) F in10 0 rfl rfl 1 (by decide) rfl (List.mem_of_getElem? (i := 3) rfl) rfl dX10_save_64 ?_
        refine sw_sipush (pc := 67) (v := 344) F dX10_save_67 rfl ?_
        refine sw_aload_n (pc := 70) F dX10_save_70 rfl 1 rfl ?_
        refine sw_get (pc := 71) (Cn := RX10) (T := TX10) (N := 5) (ci := 10) (v := .int np2) F in10 0 rfl rfl 2 (by decide) rfl (List.mem_of_getElem? (i := 2) rfl) rfl dX10_save_71 ?_
        refine sw_imul (pc := 74) F dX10_save_74 ?_
        refine sw_topi (fun x_2 ex_2 => ?_)
        have ix_2 : x_2 = nI (344 * 2) := by rw [ex_2, h2]; exact pk_mul 344 2
        refine sw_iload_n (pc := 75) F dX10_save_75 rfl 0 rfl ?_
        refine sw_iadd (pc := 76) F dX10_save_76 ?_
        refine sw_topi (fun x_3 ex_3 => ?_)
        have ix_3 : x_3 = nI ((344 * 2) + n) := by rw [ex_3, ix_2, hk]; exact nI_add (344 * 2) n
        refine sw_aload_n (pc := 77) F dX10_save_77 rfl 1 rfl ?_
        refine sw_get (pc := 78) (Cn := RX10) (T := TX10) (N := 5) (ci := 10) (v := .ref b0) F in10 0 rfl rfl 0 (by decide) rfl (List.mem_of_getElem? (i := 4) rfl) rfl dX10_save_78 ?_
        refine sw_iload_n (pc := 81) F dX10_save_81 rfl 0 rfl ?_
        refine sw_lald (pc := 82) F 1 rfl (by rw [hk]; exact vp_in_nI (by omega) (by decide)) dX10_save_82 ?_
        refine sw_naml (e := S n) (by rw [(show k.toNatClampNeg = n by rw [hk]; exact nI_clamp (by omega))]) (fun x_4 ex_4 => ?_)
        obtain ⟨f_5, ef_5⟩ : ∃ y : Nat → Int64, y = vp_updL (md_s2 688 n S (md_s1 688 P)) ((344 * 2) + n) x_4 := ⟨_, rfl⟩
        refine sw_last (pc := 83) (ws' := [(h0, .inr (10, [.ref b0, .ref b1, .int np2, .int 0, .long hh])), (b0, .inl (G.2.1.2, 344, .inr (.inl S))), (b1, .inl (G.2.1.2, 1032, .inr (.inl f_5)))]) F 2 rfl (by rw [ix_3]; exact vp_in_nI (by omega) (by decide)) dX10_save_83 (by rw [ef_5, (show x_3.toNatClampNeg = (344 * 2) + n by rw [ix_3]; exact nI_clamp (by omega))]; rfl) ?_
        obtain ⟨x_6, ex_6⟩ : ∃ y : Int32, y = k + 1 := ⟨_, rfl⟩
        refine sw_iinc (pc := 84) (v := x_6) (lv' := [(1, .int x_6), (0, .ref h0)]) F T.1 dX10_save_84 (q := 0) rfl ex_6.symm (by decide) rfl ?_
        refine sw_goto (pc := 87) (tgt := 56) F dX10_save_87 (by decide) ?_
        refine sw_lvs (is := [0, 1]) (lv' := [(1, .int x_6), (0, .ref h0)]) rfl ?_
        subst ex_6
        subst ef_5
        subst ex_4
        subst ex_3
        subst ex_2
        refine sw_eq (ws' := [(h0, .inr (10, [.ref b0, .ref b1, .int np2, .int 0, .long hh])), (b0, .inl (G.2.1.2, 344, .inr (.inl S))), (b1, .inl (G.2.1.2, 1032, .inr (.inl (md_s2 688 (n + 1) S (md_s1 688 P)))))]) (lv' := [(1, .int (nI (n + 1))), (0, .ref h0)]) (by rw [← md_s2_s 688 n S (md_s1 688 P)]) (by rw [hk, nI_1]) rfl ?_
        exact ih (n + 1) (by omega)
    have loop1 : ∀ (m n : Nat), m + n = 688 → SW G C 0 0 [(h0, .inr (10, [.ref b0, .ref b1, .int np, .int 0, .long hh])), (b0, .inl (G.2.1.2, 344, .inr (.inl S))), (b1, .inl (G.2.1.2, 1032, .inr (.inl (md_s1 n P))))] [(1, .int (nI n)), (0, .ref h0)] 15 [] := by
      intro m
      induction m with
      | zero =>
        intro n hn
        refine sw_iload_n (pc := 15) F dX10_save_15 rfl 0 rfl ?_
        refine sw_sipush (pc := 16) (v := 688) F dX10_save_16 rfl ?_
        refine sw_icmp_ge (pc := 19) (tgt := 44) F dX10_save_19 (by decide) (fun _ => ?_) (fun c => absurd (nI_le (a := 688) (b := n) (by omega) (by omega)) c)
        refine sw_aload_n (pc := 44) F dX10_save_44 rfl 1 rfl ?_
        refine sw_dup (pc := 45) F dX10_save_45 rfl ?_
        refine sw_get (pc := 46) (Cn := RX10) (T := TX10) (N := 5) (ci := 10) (v := .int np) F in10 0 rfl rfl 2 (by decide) rfl (List.mem_of_getElem? (i := 2) rfl) rfl dX10_save_46 ?_
        refine sw_iconst (pc := 49) (v := 1) F dX10_save_49 rfl ?_
        refine sw_isub (pc := 50) F dX10_save_50 ?_
        refine sw_topi (fun x_7 ex_7 => ?_)
        refine sw_put (pc := 51) (Cn := RX10) (T := TX10) (N := 5) (ci := 10) (ty0 := tyX10) (ws' := [(h0, .inr (10, [.ref b0, .ref b1, .int x_7, .int 0, .long hh])), (b0, .inl (G.2.1.2, 344, .inr (.inl S))), (b1, .inl (G.2.1.2, 1032, .inr (.inl (md_s1 n P))))]) F in10 tyX10_ok nmX10 0 rfl rfl 2 (by decide) rfl (List.mem_of_getElem? (i := 2) rfl) rfl rfl rfl (Nat.le_of_ble_eq_true rfl) dX10_save_51 rfl ?_
        refine sw_iconst (pc := 54) (v := 0) F dX10_save_54 rfl ?_
        refine sw_istore_n (pc := 55) (lv' := [(1, .int 0), (0, .ref h0)]) F T.1 dX10_save_55 rfl (by decide) rfl ?_
        refine sw_lvs (is := [0, 1]) (lv' := [(1, .int 0), (0, .ref h0)]) rfl ?_
        subst ex_7
        refine sw_eq (ws' := [(h0, .inr (10, [.ref b0, .ref b1, .int np2, .int 0, .long hh])), (b0, .inl (G.2.1.2, 344, .inr (.inl S))), (b1, .inl (G.2.1.2, 1032, .inr (.inl (md_s2 688 0 S (md_s1 688 P)))))]) (lv' := [(1, .int (nI 0)), (0, .ref h0)]) (by rw [h2, ← md_s2_0, show n = 688 by omega, hnp, h3]; rfl) rfl rfl ?_
        exact loop2 344 0 rfl
      | succ m ih =>
        intro n hn
        obtain ⟨k, hk⟩ : ∃ z, z = nI n := ⟨_, rfl⟩
        rw [← hk]
        refine sw_iload_n (pc := 15) F dX10_save_15 rfl 0 rfl ?_
        refine sw_sipush (pc := 16) (v := 688) F dX10_save_16 rfl ?_
        refine sw_icmp_ge (pc := 19) (tgt := 44) F dX10_save_19 (by decide) (fun c => absurd c (by rw [hk]; exact nI_ge (a := n) (b := 688) (by omega) (by omega))) (fun _ => ?_)
        refine sw_aload_n (pc := 22) F dX10_save_22 rfl 1 rfl ?_
        refine sw_get (pc := 23) (Cn := RX10) (T := TX10) (N := 5) (ci := 10) (v := .ref b1) F in10 0 rfl rfl 1 (by decide) rfl (List.mem_of_getElem? (i := 3) rfl) rfl dX10_save_23 ?_
        refine sw_iload_n (pc := 26) F dX10_save_26 rfl 0 rfl ?_
        refine sw_aload_n (pc := 27) F dX10_save_27 rfl 1 rfl ?_
        refine sw_get (pc := 28) (Cn := RX10) (T := TX10) (N := 5) (ci := 10) (v := .ref b1) F in10 0 rfl rfl 1 (by decide) rfl (List.mem_of_getElem? (i := 3) rfl) rfl dX10_save_28 ?_
        refine sw_iload_n (pc := 31) F dX10_save_31 rfl 0 rfl ?_
        refine sw_sipush (pc := 32) (v := 344) F dX10_save_32 rfl ?_
        refine sw_iadd (pc := 35) F dX10_save_35 ?_
        refine sw_topi (fun x_8 ex_8 => ?_)
        have ix_8 : x_8 = nI (n + 344) := by rw [ex_8, hk]; exact nI_add n 344
        refine sw_lald (pc := 36) F 2 rfl (by rw [ix_8]; exact vp_in_nI (by omega) (by decide)) dX10_save_36 ?_
        refine sw_naml (e := (md_s1 n P) (n + 344)) (by rw [(show x_8.toNatClampNeg = n + 344 by rw [ix_8]; exact nI_clamp (by omega))]) (fun x_9 ex_9 => ?_)
        obtain ⟨f_10, ef_10⟩ : ∃ y : Nat → Int64, y = vp_updL (md_s1 n P) n x_9 := ⟨_, rfl⟩
        refine sw_last (pc := 37) (ws' := [(h0, .inr (10, [.ref b0, .ref b1, .int np, .int 0, .long hh])), (b0, .inl (G.2.1.2, 344, .inr (.inl S))), (b1, .inl (G.2.1.2, 1032, .inr (.inl f_10)))]) F 2 rfl (by rw [hk]; exact vp_in_nI (by omega) (by decide)) dX10_save_37 (by rw [ef_10, (show k.toNatClampNeg = n by rw [hk]; exact nI_clamp (by omega))]; rfl) ?_
        obtain ⟨x_11, ex_11⟩ : ∃ y : Int32, y = k + 1 := ⟨_, rfl⟩
        refine sw_iinc (pc := 38) (v := x_11) (lv' := [(1, .int x_11), (0, .ref h0)]) F T.1 dX10_save_38 (q := 0) rfl ex_11.symm (by decide) rfl ?_
        refine sw_goto (pc := 41) (tgt := 15) F dX10_save_41 (by decide) ?_
        refine sw_lvs (is := [0, 1]) (lv' := [(1, .int x_11), (0, .ref h0)]) rfl ?_
        subst ex_11
        subst ef_10
        subst ex_9
        subst ex_8
        refine sw_eq (ws' := [(h0, .inr (10, [.ref b0, .ref b1, .int np, .int 0, .long hh])), (b0, .inl (G.2.1.2, 344, .inr (.inl S))), (b1, .inl (G.2.1.2, 1032, .inr (.inl (md_s1 (n + 1) P))))]) (lv' := [(1, .int (nI (n + 1))), (0, .ref h0)]) (by rw [← md_s1_s n P]) (by rw [hk, nI_1]) rfl ?_
        exact ih (n + 1) (by omega)
    refine sw_aload_n (pc := 0) F dX10_save_0 rfl 0 rfl ?_
    refine sw_iconst (pc := 1) (v := 0) F dX10_save_1 rfl ?_
    refine sw_put (pc := 2) (Cn := RX10) (T := TX10) (N := 5) (ci := 10) (ty0 := tyX10) (ws' := [(h0, .inr (10, [.ref b0, .ref b1, .int np, .int 0, .long hh])), (b0, .inl (G.2.1.2, 344, .inr (.inl S))), (b1, .inl (G.2.1.2, 1032, .inr (.inl P)))]) F in10 tyX10_ok nmX10 0 rfl rfl 3 (by decide) rfl (List.mem_of_getElem? (i := 1) rfl) rfl rfl rfl (Nat.le_of_ble_eq_true rfl) dX10_save_2 rfl ?_
    refine sw_aload_n (pc := 5) F dX10_save_5 rfl 0 rfl ?_
    refine sw_get (pc := 6) (Cn := RX10) (T := TX10) (N := 5) (ci := 10) (v := .int np) F in10 0 rfl rfl 2 (by decide) rfl (List.mem_of_getElem? (i := 2) rfl) rfl dX10_save_6 ?_
    refine sw_iconst (pc := 9) (v := 3) F dX10_save_9 rfl ?_
    refine sw_icmp_ne (pc := 10) (tgt := 54) F dX10_save_10 (by decide) (fun c => absurd (by rw [hnp, h3]; rfl) c) (fun _ => ?_)
    refine sw_iconst (pc := 13) (v := 0) F dX10_save_13 rfl ?_
    refine sw_istore_n (pc := 14) (lv' := [(1, .int 0), (0, .ref h0)]) F T.1 dX10_save_14 rfl (by decide) rfl ?_
    refine sw_lvs (is := [0, 1]) (lv' := [(1, .int 0), (0, .ref h0)]) rfl ?_
    refine sw_eq (ws' := [(h0, .inr (10, [.ref b0, .ref b1, .int np, .int 0, .long hh])), (b0, .inl (G.2.1.2, 344, .inr (.inl S))), (b1, .inl (G.2.1.2, 1032, .inr (.inl (md_s1 0 P))))]) (lv' := [(1, .int (nI 0)), (0, .ref h0)]) (by rw [← md_s1_0]) rfl rfl ?_
    exact loop1 688 0 rfl
  · skip
    obtain ⟨np2, h2⟩ : ∃ z, z = nI Nn := ⟨_, rfl⟩
    have loop2 : ∀ (m n : Nat), m + n = 344 → SW G C 0 0 [(h0, .inr (10, [.ref b0, .ref b1, .int np2, .int 0, .long hh])), (b0, .inl (G.2.1.2, 344, .inr (.inl S))), (b1, .inl (G.2.1.2, 1032, .inr (.inl (md_s2 (344 * Nn) n S P))))] [(1, .int (nI n)), (0, .ref h0)] 56 [] := by
      intro m
      induction m with
      | zero =>
        intro n hn
        refine sw_iload_n (pc := 56) F dX10_save_56 rfl 0 rfl ?_
        refine sw_sipush (pc := 57) (v := 344) F dX10_save_57 rfl ?_
        refine sw_icmp_ge (pc := 60) (tgt := 90) F dX10_save_60 (by decide) (fun _ => ?_) (fun c => absurd (nI_le (a := 344) (b := n) (by omega) (by omega)) c)
        refine sw_aload_n (pc := 90) F dX10_save_90 rfl 1 rfl ?_
        refine sw_dup (pc := 91) F dX10_save_91 rfl ?_
        refine sw_get (pc := 92) (Cn := RX10) (T := TX10) (N := 5) (ci := 10) (v := .int np2) F in10 0 rfl rfl 2 (by decide) rfl (List.mem_of_getElem? (i := 2) rfl) rfl dX10_save_92 ?_
        refine sw_iconst (pc := 95) (v := 1) F dX10_save_95 rfl ?_
        refine sw_iadd (pc := 96) F dX10_save_96 ?_
        refine sw_topi (fun x_12 ex_12 => ?_)
        have ix_12 : x_12 = nI (Nn + 1) := by rw [ex_12, h2]; exact nI_add Nn 1
        refine sw_put (pc := 97) (Cn := RX10) (T := TX10) (N := 5) (ci := 10) (ty0 := tyX10) (ws' := [(h0, .inr (10, [.ref b0, .ref b1, .int x_12, .int 0, .long hh])), (b0, .inl (G.2.1.2, 344, .inr (.inl S))), (b1, .inl (G.2.1.2, 1032, .inr (.inl (md_s2 (344 * Nn) n S P))))]) F in10 tyX10_ok nmX10 0 rfl rfl 2 (by decide) rfl (List.mem_of_getElem? (i := 2) rfl) rfl rfl rfl (Nat.le_of_ble_eq_true rfl) dX10_save_97 rfl ?_
        subst ex_12
        refine sw_vret (pc := 100) F T (nI (if Nn = 3 then 3 else Nn + 1), md_save Nn S P) ⟨rfl, rfl⟩ ?_ dX10_save_100
        rw [if_neg h3, show md_save Nn S P = md_s2 (344 * Nn) n S P by unfold md_save; rw [if_neg h3, show n = 344 by omega], show np2 + 1 = nI (Nn + 1) by rw [h2]; exact nI_1 Nn]
      | succ m ih =>
        intro n hn
        obtain ⟨k, hk⟩ : ∃ z, z = nI n := ⟨_, rfl⟩
        rw [← hk]
        refine sw_iload_n (pc := 56) F dX10_save_56 rfl 0 rfl ?_
        refine sw_sipush (pc := 57) (v := 344) F dX10_save_57 rfl ?_
        refine sw_icmp_ge (pc := 60) (tgt := 90) F dX10_save_60 (by decide) (fun c => absurd c (by rw [hk]; exact nI_ge (a := n) (b := 344) (by omega) (by omega))) (fun _ => ?_)
        refine sw_aload_n (pc := 63) F dX10_save_63 rfl 1 rfl ?_
        refine sw_get (pc := 64) (Cn := RX10) (T := TX10) (N := 5) (ci := 10) (v := .ref b1) F in10 0 rfl rfl 1 (by decide) rfl (List.mem_of_getElem? (i := 3) rfl) rfl dX10_save_64 ?_
        refine sw_sipush (pc := 67) (v := 344) F dX10_save_67 rfl ?_
        refine sw_aload_n (pc := 70) F dX10_save_70 rfl 1 rfl ?_
        refine sw_get (pc := 71) (Cn := RX10) (T := TX10) (N := 5) (ci := 10) (v := .int np2) F in10 0 rfl rfl 2 (by decide) rfl (List.mem_of_getElem? (i := 2) rfl) rfl dX10_save_71 ?_
        refine sw_imul (pc := 74) F dX10_save_74 ?_
        refine sw_topi (fun x_13 ex_13 => ?_)
        have ix_13 : x_13 = nI (344 * Nn) := by rw [ex_13, h2]; exact pk_mul 344 Nn
        refine sw_iload_n (pc := 75) F dX10_save_75 rfl 0 rfl ?_
        refine sw_iadd (pc := 76) F dX10_save_76 ?_
        refine sw_topi (fun x_14 ex_14 => ?_)
        have ix_14 : x_14 = nI ((344 * Nn) + n) := by rw [ex_14, ix_13, hk]; exact nI_add (344 * Nn) n
        refine sw_aload_n (pc := 77) F dX10_save_77 rfl 1 rfl ?_
        refine sw_get (pc := 78) (Cn := RX10) (T := TX10) (N := 5) (ci := 10) (v := .ref b0) F in10 0 rfl rfl 0 (by decide) rfl (List.mem_of_getElem? (i := 4) rfl) rfl dX10_save_78 ?_
        refine sw_iload_n (pc := 81) F dX10_save_81 rfl 0 rfl ?_
        refine sw_lald (pc := 82) F 1 rfl (by rw [hk]; exact vp_in_nI (by omega) (by decide)) dX10_save_82 ?_
        refine sw_naml (e := S n) (by rw [(show k.toNatClampNeg = n by rw [hk]; exact nI_clamp (by omega))]) (fun x_15 ex_15 => ?_)
        obtain ⟨f_16, ef_16⟩ : ∃ y : Nat → Int64, y = vp_updL (md_s2 (344 * Nn) n S P) ((344 * Nn) + n) x_15 := ⟨_, rfl⟩
        refine sw_last (pc := 83) (ws' := [(h0, .inr (10, [.ref b0, .ref b1, .int np2, .int 0, .long hh])), (b0, .inl (G.2.1.2, 344, .inr (.inl S))), (b1, .inl (G.2.1.2, 1032, .inr (.inl f_16)))]) F 2 rfl (by rw [ix_14]; exact vp_in_nI (by omega) (by decide)) dX10_save_83 (by rw [ef_16, (show x_14.toNatClampNeg = (344 * Nn) + n by rw [ix_14]; exact nI_clamp (by omega))]; rfl) ?_
        obtain ⟨x_17, ex_17⟩ : ∃ y : Int32, y = k + 1 := ⟨_, rfl⟩
        refine sw_iinc (pc := 84) (v := x_17) (lv' := [(1, .int x_17), (0, .ref h0)]) F T.1 dX10_save_84 (q := 0) rfl ex_17.symm (by decide) rfl ?_
        refine sw_goto (pc := 87) (tgt := 56) F dX10_save_87 (by decide) ?_
        refine sw_lvs (is := [0, 1]) (lv' := [(1, .int x_17), (0, .ref h0)]) rfl ?_
        subst ex_17
        subst ef_16
        subst ex_15
        subst ex_14
        subst ex_13
        refine sw_eq (ws' := [(h0, .inr (10, [.ref b0, .ref b1, .int np2, .int 0, .long hh])), (b0, .inl (G.2.1.2, 344, .inr (.inl S))), (b1, .inl (G.2.1.2, 1032, .inr (.inl (md_s2 (344 * Nn) (n + 1) S P))))]) (lv' := [(1, .int (nI (n + 1))), (0, .ref h0)]) (by rw [← md_s2_s (344 * Nn) n S P]) (by rw [hk, nI_1]) rfl ?_
        exact ih (n + 1) (by omega)
    refine sw_aload_n (pc := 0) F dX10_save_0 rfl 0 rfl ?_
    refine sw_iconst (pc := 1) (v := 0) F dX10_save_1 rfl ?_
    refine sw_put (pc := 2) (Cn := RX10) (T := TX10) (N := 5) (ci := 10) (ty0 := tyX10) (ws' := [(h0, .inr (10, [.ref b0, .ref b1, .int np, .int 0, .long hh])), (b0, .inl (G.2.1.2, 344, .inr (.inl S))), (b1, .inl (G.2.1.2, 1032, .inr (.inl P)))]) F in10 tyX10_ok nmX10 0 rfl rfl 3 (by decide) rfl (List.mem_of_getElem? (i := 1) rfl) rfl rfl rfl (Nat.le_of_ble_eq_true rfl) dX10_save_2 rfl ?_
    refine sw_aload_n (pc := 5) F dX10_save_5 rfl 0 rfl ?_
    refine sw_get (pc := 6) (Cn := RX10) (T := TX10) (N := 5) (ci := 10) (v := .int np) F in10 0 rfl rfl 2 (by decide) rfl (List.mem_of_getElem? (i := 2) rfl) rfl dX10_save_6 ?_
    refine sw_iconst (pc := 9) (v := 3) F dX10_save_9 rfl ?_
    refine sw_icmp_ne (pc := 10) (tgt := 54) F dX10_save_10 (by decide) (fun _ => ?_) (fun c => absurd c (by rw [hnp]; intro z; exact h3 ((nI_eq (by omega) (by decide)).mp (z.trans rfl : nI Nn = nI 3))))
    refine sw_iconst (pc := 54) (v := 0) F dX10_save_54 rfl ?_
    refine sw_istore_n (pc := 55) (lv' := [(1, .int 0), (0, .ref h0)]) F T.1 dX10_save_55 rfl (by decide) rfl ?_
    refine sw_lvs (is := [0, 1]) (lv' := [(1, .int 0), (0, .ref h0)]) rfl ?_
    refine sw_eq (ws' := [(h0, .inr (10, [.ref b0, .ref b1, .int np2, .int 0, .long hh])), (b0, .inl (G.2.1.2, 344, .inr (.inl S))), (b1, .inl (G.2.1.2, 1032, .inr (.inl (md_s2 (344 * Nn) 0 S P))))]) (lv' := [(1, .int (nI 0)), (0, .ref h0)]) (by rw [h2, ← md_s2_0, hnp]) rfl rfl ?_
    exact loop2 344 0 rfl
