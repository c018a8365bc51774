/-! ===== THE LAW'S LOOP, ITS START AND ITS END ===== -/
theorem lo_and (z : Int32) : ∃ N : Nat, N < 32 ∧ z &&& 31 = nI N := by
  have h : (z &&& 31).toBitVec.toNat ≤ 31 := by
    rw [Int32.toBitVec_and, BitVec.toNat_and]
    exact Nat.and_le_right
  refine ⟨(z &&& 31).toBitVec.toNat, by omega, ?_⟩
  apply Int32.toBitVec_inj.mp
  apply BitVec.eq_of_toNat_eq
  show _ = (BitVec.ofNat 32 (z &&& 31).toBitVec.toNat).toNat
  rw [BitVec.toNat_ofNat]
  exact (Nat.mod_eq_of_lt (by omega)).symm
section LO
variable {G : sw_E} {C : sw_C} {l : Launch} {b L : Nat} {xs : Nat → Int32} {h m o b0 b1 : Nat}
theorem lo_loop (F : sw_H G C cL_law RL wsL_law) (hF : LF G C l b L xs) (hst : l.stackTraces = false) (hL : L ≤ 2048)
    (hE : ∀ (k n : Nat) (ws : va_W) (lv : List (Nat × Value)), k ≤ 601024 → n ≤ 7293033 → SW G C k n ws lv 1589 [.int 1]) :
    ∀ (r j k n : Nat) (na ba ca fa : Nat → Nat) (kq : Nat) (th : Int32) (hh : Int64) (x y1 y2 y3 : XS) (S P ov : Nat → Int64), j + r = 513 → k ≤ 1000 + j → n ≤ 10000 + 6 * j → PX (80004 * (j : Int)) kq x y1 y2 y3 S P →
      SW G C k n (WL G h m o b0 b1 na ba ca fa kq th hh x y1 y2 y3 S P ov) [(4, .int (nI (4 * j))), (3, .ref o), (2, .ref m), (1, .ref h), (0, .ref b)] 23 [] := by
  intro r
  induction r with
  | zero =>
    intro j k n na ba ca fa kq th hh x y1 y2 y3 S P ov hj hk hn hp
    refine sw_iload (pc := 23) F dL_law_23 0 rfl ?_
    refine sw_aload_n (pc := 25) F dL_law_25 rfl 4 rfl ?_
    refine ly_slen (pc := 26) F hF.2.2.2.2.1 hF.2.2.2.2.2.1 hF.2.2.2.2.2.2 dL_law_26 ?_
    refine sw_iconst (pc := 27) (v := 4) F dL_law_27 rfl ?_
    refine sw_isub (pc := 28) F dL_law_28 ?_
    refine sw_icmp_gt (pc := 29) (tgt := 1588) F dL_law_29 (by decide) (fun _ => ?_) (fun z => ?_)
    · refine sw_iconst (pc := 1588) (v := 1) F dL_law_1588 rfl ?_
      exact hE _ _ _ _ (by omega) (by omega)
    · exfalso
      apply z
      have e4 : (4 : Int32).toInt = 4 := by decide
      have eL : (Int32.ofNat L).toInt = (L : Int) := pn_t (by omega)
      rw [Int32.lt_iff_toInt_lt, Kit.i32_sub (by rw [eL, e4]; omega) (by rw [eL, e4]; omega), eL, e4, pn_t (by omega)]
      omega
  | succ r ih =>
    intro j k n na ba ca fa kq th hh x y1 y2 y3 S P ov hj hk hn hp
    refine sw_iload (pc := 23) F dL_law_23 0 rfl ?_
    refine sw_aload_n (pc := 25) F dL_law_25 rfl 4 rfl ?_
    refine ly_slen (pc := 26) F hF.2.2.2.2.1 hF.2.2.2.2.2.1 hF.2.2.2.2.2.2 dL_law_26 ?_
    refine sw_iconst (pc := 27) (v := 4) F dL_law_27 rfl ?_
    refine sw_isub (pc := 28) F dL_law_28 ?_
    refine sw_icmp_gt (pc := 29) (tgt := 1588) F dL_law_29 (by decide) (fun _ => ?_) (fun z => ?_)
    · refine sw_iconst (pc := 1588) (v := 1) F dL_law_1588 rfl ?_
      exact hE _ _ _ _ (by omega) (by omega)
    · have hb : 4 * j + 4 ≤ L := by
        have e4 : (4 : Int32).toInt = 4 := by decide
        have eL : (Int32.ofNat L).toInt = (L : Int) := pn_t (by omega)
        rw [Int32.lt_iff_toInt_lt, Kit.i32_sub (by rw [eL, e4]; omega) (by rw [eL, e4]; omega), eL, e4, pn_t (by omega)] at z
        omega
      have hi0 : vp_in (nI (4 * j)) L := vp_in_nI (by omega) (by omega)
      have hi1 : vp_in (nI (4 * j) + 1) L := by rw [show nI (4 * j) + 1 = nI (4 * j + 1) from pn_add _ 1]; exact vp_in_nI (by omega) (by omega)
      have hi2 : vp_in (nI (4 * j) + 2) L := by rw [show nI (4 * j) + 2 = nI (4 * j + 2) from pn_add _ 2]; exact vp_in_nI (by omega) (by omega)
      have hi3 : vp_in (nI (4 * j) + 3) L := by rw [show nI (4 * j) + 3 = nI (4 * j + 3) from pn_add _ 3]; exact vp_in_nI (by omega) (by omega)
      have hn4 : nI (4 * j) + Int32.ofInt 4 = nI (4 * (j + 1)) := by rw [show 4 * (j + 1) = 4 * j + 4 by omega]; exact pn_add _ 4
      have kk : KK G C k n (80004 * (j : Int)) h m o b0 b1 b (nI (4 * j)) := by
        intro k' n' na ba ca fa kq th hh x y1 y2 y3 S P ov hk' hn' hp'
        refine sw_iinc (pc := 1582) (q := 0) (lv' := [(4, .int (nI (4 * (j + 1)))), (3, .ref o), (2, .ref m), (1, .ref h), (0, .ref b)]) F hF.1 dL_law_1582 rfl hn4 (by decide) rfl ?_
        refine sw_goto (pc := 1585) (tgt := 23) F dL_law_1585 (by decide) ?_
        exact ih (j + 1) k' n' na ba ca fa kq th hh x y1 y2 y3 S P ov (by omega) (by omega) (by omega) (PX_mono hp' (by omega))
      have hT : 80004 * (j : Int) < 1900000000 := by omega
      have hk1 : k + 1 ≤ room_1.cells := by show k + 1 ≤ 601024; omega
      have hn1 : n + 6 ≤ room_1.slots := by show n + 6 ≤ 7293033; omega
      refine sw_aload_n (pc := 32) F dL_law_32 rfl 4 rfl ?_
      refine sw_iload (pc := 33) F dL_law_33 0 rfl ?_
      refine ly_sld (pc := 35) F hF.2.2.2.2.1 hF.2.2.2.2.2.1 hF.2.2.2.2.2.2 hi0 dL_law_35 ?_
      refine sw_bipush (pc := 36) (v := 31) F dL_law_36 rfl ?_
      refine sw_iand (pc := 38) F dL_law_38 ?_
      obtain ⟨N, hN, eN⟩ := lo_and (xs (nI (4 * j)).toNatClampNeg)
      refine sw_eqt (v := .int (nI N)) (by rw [eN]) ?_
      match N, hN with
      | 0, _ => exact sw_tableIn (pc := 39) (x := nI 0) (off := 133) (tgt := 172) F dL_law_39 (by decide) (by decide) rfl (by decide) (law_s0 F hF hst hi1 rfl hi2 rfl hT hp hk1 hn1 kk)
      | 1, _ => exact sw_tableIn (pc := 39) (x := nI 1) (off := 201) (tgt := 240) F dL_law_39 (by decide) (by decide) rfl (by decide) (law_s1 F hF hst hi1 rfl hi2 rfl hT hp hk1 hn1 kk)
      | 2, _ => exact sw_tableIn (pc := 39) (x := nI 2) (off := 269) (tgt := 308) F dL_law_39 (by decide) (by decide) rfl (by decide) (law_s2 F hF hst hi1 rfl hT hp hk1 hn1 kk)
      | 3, _ => exact sw_tableIn (pc := 39) (x := nI 3) (off := 325) (tgt := 364) F dL_law_39 (by decide) (by decide) rfl (by decide) (law_s3 F hF hst hi1 rfl hi2 rfl hT hp hk1 hn1 kk)
      | 4, _ => exact sw_tableIn (pc := 39) (x := nI 4) (off := 393) (tgt := 432) F dL_law_39 (by decide) (by decide) rfl (by decide) (law_s4 F hF hst hi1 rfl hi2 rfl hT hp hk1 hn1 kk)
      | 5, _ => exact sw_tableIn (pc := 39) (x := nI 5) (off := 461) (tgt := 500) F dL_law_39 (by decide) (by decide) rfl (by decide) (law_s5 F hF hst hi1 rfl hT hp hk1 hn1 kk)
      | 6, _ => exact sw_tableIn (pc := 39) (x := nI 6) (off := 517) (tgt := 556) F dL_law_39 (by decide) (by decide) rfl (by decide) (law_s6 F hF hst hi1 rfl hi2 rfl hT hp hk1 hn1 kk)
      | 7, _ => exact sw_tableIn (pc := 39) (x := nI 7) (off := 585) (tgt := 624) F dL_law_39 (by decide) (by decide) rfl (by decide) (law_s7 F hF hst hi1 rfl hT hp hk1 hn1 kk)
      | 8, _ => exact sw_tableIn (pc := 39) (x := nI 8) (off := 641) (tgt := 680) F dL_law_39 (by decide) (by decide) rfl (by decide) (law_s8 F hF hst hi1 rfl hi2 rfl hT hp hk1 hn1 kk)
      | 9, _ => exact sw_tableIn (pc := 39) (x := nI 9) (off := 709) (tgt := 748) F dL_law_39 (by decide) (by decide) rfl (by decide) (law_s9 F hF hst hi1 rfl hT hp hk1 hn1 kk)
      | 10, _ => exact sw_tableIn (pc := 39) (x := nI 10) (off := 764) (tgt := 803) F dL_law_39 (by decide) (by decide) rfl (by decide) (law_s10 F hF hst hi1 rfl hi2 rfl hT hp hk1 hn1 kk)
      | 11, _ => exact sw_tableIn (pc := 39) (x := nI 11) (off := 832) (tgt := 871) F dL_law_39 (by decide) (by decide) rfl (by decide) (law_s11 F hF hst  hT hp hk1 hn1 kk)
      | 12, _ => exact sw_tableIn (pc := 39) (x := nI 12) (off := 875) (tgt := 914) F dL_law_39 (by decide) (by decide) rfl (by decide) (law_s12 F hF hst hi1 rfl hi2 rfl hT hp hk1 hn1 kk)
      | 13, _ => exact sw_tableIn (pc := 39) (x := nI 13) (off := 943) (tgt := 982) F dL_law_39 (by decide) (by decide) rfl (by decide) (law_s13 F hF hst  hT hp hk1 hn1 kk)
      | 14, _ => exact sw_tableIn (pc := 39) (x := nI 14) (off := 956) (tgt := 995) F dL_law_39 (by decide) (by decide) rfl (by decide) (law_s14 F hF hst  hT hp hk1 hn1 kk)
      | 15, _ => exact sw_tableIn (pc := 39) (x := nI 15) (off := 969) (tgt := 1008) F dL_law_39 (by decide) (by decide) rfl (by decide) (law_s15 F hF hst  hT hp hk1 hn1 kk)
      | 16, _ => exact sw_tableIn (pc := 39) (x := nI 16) (off := 983) (tgt := 1022) F dL_law_39 (by decide) (by decide) rfl (by decide) (law_s16 F hF hst  hT hp hk1 hn1 kk)
      | 17, _ => exact sw_tableIn (pc := 39) (x := nI 17) (off := 997) (tgt := 1036) F dL_law_39 (by decide) (by decide) rfl (by decide) (law_s17 F hF hst  hT hp hk1 hn1 kk)
      | 18, _ => exact sw_tableIn (pc := 39) (x := nI 18) (off := 1010) (tgt := 1049) F dL_law_39 (by decide) (by decide) rfl (by decide) (law_s18 F hF hst hi1 rfl hT hp hk1 hn1 kk)
      | 19, _ => exact sw_tableIn (pc := 39) (x := nI 19) (off := 1065) (tgt := 1104) F dL_law_39 (by decide) (by decide) rfl (by decide) (law_s19 F hF hst  hT hp hk1 hn1 kk)
      | 20, _ => exact sw_tableIn (pc := 39) (x := nI 20) (off := 1078) (tgt := 1117) F dL_law_39 (by decide) (by decide) rfl (by decide) (law_s20 F hF hst hi1 rfl hi2 rfl hi3 rfl hT hp hk1 hn1 kk)
      | 21, _ => exact sw_tableIn (pc := 39) (x := nI 21) (off := 1157) (tgt := 1196) F dL_law_39 (by decide) (by decide) rfl (by decide) (law_s21 F hF hst hi1 rfl hi2 rfl hT hp hk1 hn1 kk)
      | 22, _ => exact sw_tableIn (pc := 39) (x := nI 22) (off := 1245) (tgt := 1284) F dL_law_39 (by decide) (by decide) rfl (by decide) (law_s22 F hF hst  hT hp hk1 hn1 kk)
      | 23, _ => exact sw_tableIn (pc := 39) (x := nI 23) (off := 1258) (tgt := 1297) F dL_law_39 (by decide) (by decide) rfl (by decide) (law_s23 F hF hst hi1 rfl hi2 rfl hT hp hk1 hn1 kk)
      | 24, _ => exact sw_tableIn (pc := 39) (x := nI 24) (off := 1325) (tgt := 1364) F dL_law_39 (by decide) (by decide) rfl (by decide) (law_s24 F hF hst  hT hp hk1 hn1 kk)
      | 25, _ => exact sw_tableIn (pc := 39) (x := nI 25) (off := 1338) (tgt := 1377) F dL_law_39 (by decide) (by decide) rfl (by decide) (law_s25 F hF hst hi1 rfl hi2 rfl hT hp hk1 hn1 kk)
      | 26, _ => exact sw_tableIn (pc := 39) (x := nI 26) (off := 1405) (tgt := 1444) F dL_law_39 (by decide) (by decide) rfl (by decide) (law_s26 F hF hst  hT hp hk1 hn1 kk)
      | 27, _ => exact sw_tableIn (pc := 39) (x := nI 27) (off := 1418) (tgt := 1457) F dL_law_39 (by decide) (by decide) rfl (by decide) (law_s27 F hF hst hi1 rfl hi2 rfl hT hp hk1 hn1 kk)
      | 28, _ => exact sw_tableIn (pc := 39) (x := nI 28) (off := 1485) (tgt := 1524) F dL_law_39 (by decide) (by decide) rfl (by decide) (law_s28 F hF hst  hT hp hk1 hn1 kk)
      | 29, _ => exact sw_tableIn (pc := 39) (x := nI 29) (off := 1529) (tgt := 1568) F dL_law_39 (by decide) (by decide) rfl (by decide) (law_s29 F hF hst  hT hp hk1 hn1 kk)
      | 30, _ => exact sw_tableOut (pc := 39) (x := nI 30) (tgt := 1582) F dL_law_39 (by decide) (by decide) (fin_same kk hp (by omega) (by omega))
      | 31, _ => exact sw_tableOut (pc := 39) (x := nI 31) (tgt := 1582) F dL_law_39 (by decide) (by decide) (fin_same kk hp (by omega) (by omega))
      | q + 32, hq => exact absurd hq (by omega)
theorem lo_start (F : sw_H G C cL_law RL wsL_law) (hF : LF G C l b L xs) (hst : l.stackTraces = false) (hL : L ≤ 2048)
    (hE : ∀ (k n : Nat) (ws : va_W) (lv : List (Nat × Value)), k ≤ 601024 → n ≤ 7293033 → SW G C k n ws lv 1589 [.int 1]) : SW G C 0 0 [] [(0, .ref b)] 0 [] := by
  refine sw_new (pc := 0) (Cn := RX9) (T := TX9) (N := 5) (ci := 9) (ty := tyX9) (fs := [.null, .null, .null, .null, .int 0]) (rm := room_1) (k' := 1) (n' := 5) F hF.2.1 inlX9 tyX9_ok (List.mem_of_getElem? (i := 0) rfl) (List.mem_of_getElem? (i := 1) rfl) (List.mem_of_getElem? (i := 2) rfl) rfl (sw_dvX9) rfl rfl (Nat.le_of_ble_eq_true rfl) (Nat.le_of_ble_eq_true rfl) dL_law_0 (fun h => ?_)
  refine sw_dup (pc := 3) F dL_law_3 rfl ?_
  refine ly_callv (pc := 4) (P := []) (Q := [(h, .inr (9, [.null, .null, .null, .null, .int 0]))]) (R := []) (k' := 81) (n' := 1509) F (sw_runI (R := room_1) (na := 0) F hF.2.1 hF.2.2.1 (k_X9_init l G h) [0] rfl (by decide) gL_law_X9_init rfl rfl rfl (List.mem_of_getElem? (i := 2) rfl) (List.mem_of_getElem? (i := 8) rfl) (List.mem_of_getElem? (i := 9) rfl) rfl (by decide +kernel) ⟨Nat.le_of_ble_eq_true rfl, Nat.le_of_ble_eq_true rfl⟩ rfl rfl (Nat.le_of_ble_eq_true rfl) dL_law_4 (Nat.le_of_ble_eq_true rfl) (Nat.le_of_ble_eq_true rfl)) rfl rfl (fun u _ => ?_)
  obtain ⟨na, ba, ca, fa⟩ := u
  refine sw_astore_n (pc := 7) (lv' := [(1, .ref h), (0, .ref b)]) F hF.1 dL_law_7 rfl (by decide) rfl ?_
  obtain ⟨W1, hW1⟩ : ∃ W1 : va_W, W1 = lw_fc h na ba ca fa 0 :: (stw G na x0 ++ (stw G ba x0 ++ (stw G ca x0 ++ stw G fa x0))) := ⟨_, rfl⟩
  refine sw_eq (ws' := W1) (by rw [hW1]; show [] ++ (([lw_fc h na ba ca fa 0] ++ stw G na x0 ++ stw G ba x0 ++ stw G ca x0 ++ stw G fa x0) ++ []) = _; simp only [List.cons_append, List.append_assoc, List.nil_append, List.append_nil]) rfl rfl ?_
  refine sw_new (pc := 8) (Cn := RX10) (T := TX10) (N := 5) (ci := 10) (ty := tyX10) (fs := [.null, .null, .int 0, .int 0, .long 0]) (rm := room_1) (k' := 82) (n' := 1514) F hF.2.1 inlX10 tyX10_ok (List.mem_of_getElem? (i := 3) rfl) (List.mem_of_getElem? (i := 4) rfl) (List.mem_of_getElem? (i := 5) rfl) rfl (sw_dvX10) rfl rfl (Nat.le_of_ble_eq_true rfl) (Nat.le_of_ble_eq_true rfl) dL_law_8 (fun m => ?_)
  refine sw_dup (pc := 11) F dL_law_11 rfl ?_
  refine ly_callv (pc := 12) (P := W1) (Q := [(m, .inr (10, [.null, .null, .int 0, .int 0, .long 0]))]) (R := []) (k' := 84) (n' := 2890) F (sw_runI (R := room_1) (na := 0) F hF.2.1 hF.2.2.1 (k_X10_init l G m) (List.range' W1.length 1) (ly_map W1 [(m, .inr (10, [.null, .null, .int 0, .int 0, .long 0]))] []) (ly_nd _ _) gL_law_X10_init rfl rfl rfl (List.mem_of_getElem? (i := 5) rfl) (List.mem_of_getElem? (i := 103) rfl) (List.mem_of_getElem? (i := 104) rfl) rfl (by decide +kernel) ⟨Nat.le_of_ble_eq_true rfl, Nat.le_of_ble_eq_true rfl⟩ rfl rfl (Nat.le_of_ble_eq_true rfl) dL_law_12 (Nat.le_of_ble_eq_true rfl) (Nat.le_of_ble_eq_true rfl)) rfl rfl (fun u hu => ?_)
  obtain ⟨b0, b1, S⟩ := u
  have hS : S = f_X10_init_o1 := hu
  subst hS
  refine sw_astore_n (pc := 15) (lv' := [(2, .ref m), (1, .ref h), (0, .ref b)]) F hF.1 dL_law_15 rfl (by decide) rfl ?_
  refine sw_iconst (pc := 16) (v := 1) F dL_law_16 rfl ?_
  refine sw_newJ (pc := 17) (N := 1) (rm := room_1) (k' := 85) (n' := 2891) F hF.2.1 (List.mem_of_getElem? (i := 6) rfl) (by decide) rfl (Nat.le_of_ble_eq_true rfl) rfl rfl (Nat.le_of_ble_eq_true rfl) (Nat.le_of_ble_eq_true rfl) dL_law_17 (fun o => ?_)
  refine sw_astore_n (pc := 19) (lv' := [(3, .ref o), (2, .ref m), (1, .ref h), (0, .ref b)]) F hF.1 dL_law_19 rfl (by decide) rfl ?_
  refine sw_iconst (pc := 20) (v := 0) F dL_law_20 rfl ?_
  refine sw_istore (pc := 21) (lv' := [(4, .int 0), (3, .ref o), (2, .ref m), (1, .ref h), (0, .ref b)]) F hF.1 dL_law_21 (by decide) rfl ?_
  obtain ⟨RM, hRM⟩ : ∃ RM : va_W, RM = lw_rm G m b0 b1 0 0 0 f_X10_init_o1 (fun _ => 0) := ⟨_, rfl⟩
  refine sw_eq (ws' := ([] ++ W1) ++ (RM ++ [lw_out G o (fun _ => 0)])) (by show (W1 ++ (lw_rm G m b0 b1 0 0 0 f_X10_init_o1 (fun _ => 0) ++ [])) ++ [lw_out G o (fun _ => 0)] = _; rw [hRM]; simp only [List.cons_append, List.append_assoc, List.nil_append, List.append_nil]) rfl rfl ?_
  refine ly_swap ?_
  refine sw_eq (ws' := ((RM ++ (lw_out G o (fun _ => 0) :: lw_fc h na ba ca fa 0 :: stw G na x0)) ++ (stw G ba x0 ++ stw G ca x0)) ++ stw G fa x0) (by rw [hW1]; simp only [List.cons_append, List.append_assoc, List.nil_append, List.append_nil]) rfl rfl ?_
  refine ly_swap ?_
  refine sw_eq (ws' := WL G h m o b0 b1 na ba ca fa 0 0 0 x0 x0 x0 x0 f_X10_init_o1 (fun _ => 0) (fun _ => 0)) (by unfold WL; rw [hRM]; simp only [List.cons_append, List.append_assoc, List.nil_append, List.append_nil]; rfl) rfl rfl ?_
  exact lo_loop F hF hst hL hE 513 0 85 2891 na ba ca fa 0 0 0 x0 x0 x0 x0 f_X10_init_o1 (fun _ => 0) (fun _ => 0) rfl (by omega) (by omega) (px_init x0 x0 x0 (fun _ => 0))
end LO
