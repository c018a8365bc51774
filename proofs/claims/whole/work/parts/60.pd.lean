theorem n10' : ((1 : Int32) = 0) = False := eq_false (by decide)
theorem n01' : ((0 : Int32) = 1) = False := eq_false (by decide)
theorem m10' : ((1 : Int64) = 0) = False := eq_false (by decide)
theorem m01' : ((0 : Int64) = 1) = False := eq_false (by decide)
theorem b01 {v : Int32} (h0 : 0 ≤ v.toInt) (h1 : v.toInt ≤ 1) : v = 0 ∨ v = 1 := by
  have : v.toInt = 0 ∨ v.toInt = 1 := by omega
  rcases this with h | h
  · exact Or.inl (Int32.toInt_inj.mp h)
  · exact Or.inr (Int32.toInt_inj.mp h)
theorem faulty_ge {tr : Int32} (h : f_X8_isFaulty_r tr = 0) : 12000 ≤ tr.toInt := by
  unfold f_X8_isFaulty_r at h
  by_cases c : (12000 : Int32) ≤ tr
  · rw [Int32.le_iff_toInt_le] at c; exact c
  · rw [if_neg c] at h; exact absurd h (by decide)
theorem rx_flt0 {T : Int} {y : XS} {Z : Nat → Int64} (h : RX T y Z) (c : f_X8_isFaulty_r (y.1 7) = 0) :
    RX T (xI y 8 (f_X8_filter_o0_4 0 (y.1 5) (y.1 6) (y.1 7) (y.1 8))) (vp_updL Z 18 (Z 18 + f_X10_floor_r (f_X10_readingOf_r Z 0 0 - Z 18) (1 <<< (((Z 10).toInt32 : Int32).toInt64 &&& 63)))) := by
  have h6 : Z 6 = (y.1 5).toInt64 := h.1 5 (by decide)
  have h10 : Z 10 = (y.1 6).toInt64 := h.1 6 (by decide)
  have h14 : Z 14 = (y.1 7).toInt64 := h.1 7 (by decide)
  have h18 : Z 18 = (y.1 8).toInt64 := h.1 8 (by decide)
  have b6 : 100 ≤ (y.1 5).toInt ∧ (y.1 5).toInt ≤ 30000 := h.2.2.1 5 (by decide)
  have b10 : 0 ≤ (y.1 6).toInt ∧ (y.1 6).toInt ≤ 8 := h.2.2.1 6 (by decide)
  have b14 : 0 ≤ (y.1 7).toInt ∧ (y.1 7).toInt ≤ 65535 := h.2.2.1 7 (by decide)
  have b18 : -634 ≤ (y.1 8).toInt ∧ (y.1 8).toInt ≤ 30000 := h.2.2.1 8 (by decide)
  have eo : (0 : Int32).toInt = 0 := by decide
  obtain ⟨f1, f2, f3⟩ := pz_filter 0 (y.1 5) (y.1 6) (y.1 7) (y.1 8) (by omega) (by omega) b6.1 b6.2 (faulty_ge c) b14.2 b10.1 b10.2 (by omega) (by omega)
  have hr : f_X10_readingOf_r Z 0 0 = (0 : Int32).toInt64 + f_X10_floor_r ((y.1 5).toInt64 * ((y.1 7).toInt64 - 13107)) 52428 := by
    unfold f_X10_readingOf_r
    rw [if_neg (by decide)]
    show _ + f_X10_floor_r (Z 6 * (Z 14 - 13107)) 52428 = _
    rw [h6, h14]; rfl
  refine RX_int h 8 (by decide) _ _ 18 rfl ?_ (by show (-634 : Int) ≤ _; omega) (by show _ ≤ (30000 : Int); omega)
  rw [hr, h18, h10, f1]
theorem rx_fol0 {T : Int} {x : XS} {S : Nat → Int64} (h : RX T x S) : RX T (st_fol0 x) (g_X10_senses_1 S) := by
  have h14 : S 14 = (x.1 7).toInt64 := h.1 7 (by decide)
  have hF : f_X10_isFaulty_r S 0 = f_X8_isFaulty_r (x.1 7) := pz_faulty _ S 0 h14
  have h22 : S 22 = (x.1 9).toInt64 := h.1 9 (by decide)
  have b22 : 0 ≤ (x.1 9).toInt ∧ (x.1 9).toInt ≤ 1 := h.2.2.1 9 (by decide)
  have z0 : (0 : Int32).toInt64 = 0 := rfl
  have z1 : (1 : Int32).toInt64 = 1 := rfl
  unfold g_X10_senses_1
  rcases pz_faulty01 (x.1 7) with c | c
  · rw [if_pos (show f_X10_isFaulty_r S 0 = 0 by rw [hF, c])]
    rcases b01 b22.1 b22.2 with e | e
    · rw [if_pos (show 0 = S 22 by rw [h22, e]; rfl)]
      have r1 := RX_int h 9 (by decide) 0 0 22 rfl rfl (by decide) (by show _ ≤ (1 : Int); decide)
      have r2 := rx_flt0 r1 c
      have eq : st_fol0 x = xI (xI x 9 0) 8 (f_X8_filter_o0_4 0 (x.1 5) (x.1 6) (x.1 7) (x.1 8)) := by
        rw [xI_comm (by decide)]
        simp only [st_fol0, f_X6_followTransmitter_0_o1_4, f_X6_followTransmitter_0_o1_5, f_X6_followTransmitter_0_o2_3, f_X6_followTransmitter_0_o2_4, f_X6_followTransmitter_0_o3, c, e, if_true]
        exact xG_none (upd (upd x.1 8 _) 9 0) x.2
      rw [eq]; exact r2
    · rw [if_neg (show ¬ 0 = S 22 by rw [h22, e]; decide)]
      have r0 := RX_log h 1 0
      have r1 := RX_int r0 9 (by decide) 0 0 22 rfl rfl (by decide) (by show _ ≤ (1 : Int); decide)
      have r2 := rx_flt0 r1 c
      have eq : st_fol0 x = xI (xI (xG x 1 0) 9 0) 8 (f_X8_filter_o0_4 0 (x.1 5) (x.1 6) (x.1 7) (x.1 8)) := by
        rw [xI_comm (by decide), ← xG_I (by decide) (by decide) (by decide), ← xG_I (by decide) (by decide) (by decide)]
        simp only [st_fol0, f_X6_followTransmitter_0_o1_4, f_X6_followTransmitter_0_o1_5, f_X6_followTransmitter_0_o2_3, f_X6_followTransmitter_0_o2_4, f_X6_followTransmitter_0_o3, c, e, if_true, n01', n10', if_false]
        rfl
      rw [eq]; exact r2
  · rw [if_neg (show ¬ f_X10_isFaulty_r S 0 = 0 by rw [hF, c]; decide)]
    rcases b01 b22.1 b22.2 with e | e
    · rw [if_neg (show ¬ 1 = S 22 by rw [h22, e]; decide)]
      have r0 := RX_log h 0 0
      have r1 := RX_int r0 9 (by decide) 1 1 22 rfl rfl (by decide) (by show _ ≤ (1 : Int); decide)
      have eq : st_fol0 x = xI (xG x 0 0) 9 1 := by
        rw [← xG_I (by decide) (by decide) (by decide)]
        simp only [st_fol0, f_X6_followTransmitter_0_o1_4, f_X6_followTransmitter_0_o1_5, f_X6_followTransmitter_0_o2_3, f_X6_followTransmitter_0_o2_4, f_X6_followTransmitter_0_o3, c, e, if_true, n01', n10', if_false]
        rw [upd_self]
        rfl
      rw [eq]; exact r1
    · rw [if_pos (show 1 = S 22 by rw [h22, e]; rfl)]
      have r1 := RX_int h 9 (by decide) 1 1 22 rfl rfl (by decide) (by show _ ≤ (1 : Int); decide)
      have eq : st_fol0 x = xI x 9 1 := by
        simp only [st_fol0, f_X6_followTransmitter_0_o1_4, f_X6_followTransmitter_0_o1_5, f_X6_followTransmitter_0_o2_3, f_X6_followTransmitter_0_o2_4, f_X6_followTransmitter_0_o3, c, e, if_true, n01', n10', if_false]
        rw [upd_self]
        exact xG_none (upd x.1 9 1) x.2
      rw [eq]; exact r1
theorem rx_flt1 {T : Int} {y : XS} {Z : Nat → Int64} (h : RX T y Z) (c : f_X8_isFaulty_r (y.1 12) = 0) :
    RX T (xI y 13 (f_X8_filter_o0_4 0 (y.1 10) (y.1 11) (y.1 12) (y.1 13))) (vp_updL Z 19 (Z 19 + f_X10_floor_r (f_X10_readingOf_r Z 1 1 - Z 19) (1 <<< (((Z 11).toInt32 : Int32).toInt64 &&& 63)))) := by
  have h6 : Z 7 = (y.1 10).toInt64 := h.1 10 (by decide)
  have h10 : Z 11 = (y.1 11).toInt64 := h.1 11 (by decide)
  have h14 : Z 15 = (y.1 12).toInt64 := h.1 12 (by decide)
  have h18 : Z 19 = (y.1 13).toInt64 := h.1 13 (by decide)
  have b6 : 100 ≤ (y.1 10).toInt ∧ (y.1 10).toInt ≤ 30000 := h.2.2.1 10 (by decide)
  have b10 : 0 ≤ (y.1 11).toInt ∧ (y.1 11).toInt ≤ 8 := h.2.2.1 11 (by decide)
  have b14 : 0 ≤ (y.1 12).toInt ∧ (y.1 12).toInt ≤ 65535 := h.2.2.1 12 (by decide)
  have b18 : -634 ≤ (y.1 13).toInt ∧ (y.1 13).toInt ≤ 30000 := h.2.2.1 13 (by decide)
  have eo : (0 : Int32).toInt = 0 := by decide
  obtain ⟨f1, f2, f3⟩ := pz_filter 0 (y.1 10) (y.1 11) (y.1 12) (y.1 13) (by omega) (by omega) b6.1 b6.2 (faulty_ge c) b14.2 b10.1 b10.2 (by omega) (by omega)
  have hr : f_X10_readingOf_r Z 1 1 = (0 : Int32).toInt64 + f_X10_floor_r ((y.1 10).toInt64 * ((y.1 12).toInt64 - 13107)) 52428 := by
    unfold f_X10_readingOf_r
    rw [if_neg (by decide)]
    show _ + f_X10_floor_r (Z 7 * (Z 15 - 13107)) 52428 = _
    rw [h6, h14]; rfl
  refine RX_int h 13 (by decide) _ _ 19 rfl ?_ (by show (-634 : Int) ≤ _; omega) (by show _ ≤ (30000 : Int); omega)
  rw [hr, h18, h10, f1]
theorem rx_fol1 {T : Int} {x : XS} {S : Nat → Int64} (h : RX T x S) : RX T (st_fol1 x) (g_X10_senses_2 S) := by
  have h14 : S 15 = (x.1 12).toInt64 := h.1 12 (by decide)
  have hF : f_X10_isFaulty_r S 1 = f_X8_isFaulty_r (x.1 12) := pz_faulty _ S 1 h14
  have h22 : S 23 = (x.1 14).toInt64 := h.1 14 (by decide)
  have b22 : 0 ≤ (x.1 14).toInt ∧ (x.1 14).toInt ≤ 1 := h.2.2.1 14 (by decide)
  have z0 : (0 : Int32).toInt64 = 0 := rfl
  have z1 : (1 : Int32).toInt64 = 1 := rfl
  unfold g_X10_senses_2
  rcases pz_faulty01 (x.1 12) with c | c
  · rw [if_pos (show f_X10_isFaulty_r S 1 = 0 by rw [hF, c])]
    rcases b01 b22.1 b22.2 with e | e
    · rw [if_pos (show 0 = S 23 by rw [h22, e]; rfl)]
      have r1 := RX_int h 14 (by decide) 0 0 23 rfl rfl (by decide) (by show _ ≤ (1 : Int); decide)
      have r2 := rx_flt1 r1 c
      have eq : st_fol1 x = xI (xI x 14 0) 13 (f_X8_filter_o0_4 0 (x.1 10) (x.1 11) (x.1 12) (x.1 13)) := by
        rw [xI_comm (by decide)]
        simp only [st_fol1, f_X6_followTransmitter_1_o1_4, f_X6_followTransmitter_1_o1_5, f_X6_followTransmitter_1_o2_3, f_X6_followTransmitter_1_o2_4, f_X6_followTransmitter_1_o3, c, e, if_true]
        exact xG_none (upd (upd x.1 13 _) 14 0) x.2
      rw [eq]; exact r2
    · rw [if_neg (show ¬ 0 = S 23 by rw [h22, e]; decide)]
      have r0 := RX_log h 1 1
      have r1 := RX_int r0 14 (by decide) 0 0 23 rfl rfl (by decide) (by show _ ≤ (1 : Int); decide)
      have r2 := rx_flt1 r1 c
      have eq : st_fol1 x = xI (xI (xG x 1 1) 14 0) 13 (f_X8_filter_o0_4 0 (x.1 10) (x.1 11) (x.1 12) (x.1 13)) := by
        rw [xI_comm (by decide), ← xG_I (by decide) (by decide) (by decide), ← xG_I (by decide) (by decide) (by decide)]
        simp only [st_fol1, f_X6_followTransmitter_1_o1_4, f_X6_followTransmitter_1_o1_5, f_X6_followTransmitter_1_o2_3, f_X6_followTransmitter_1_o2_4, f_X6_followTransmitter_1_o3, c, e, if_true, n01', n10', if_false]
        rfl
      rw [eq]; exact r2
  · rw [if_neg (show ¬ f_X10_isFaulty_r S 1 = 0 by rw [hF, c]; decide)]
    rcases b01 b22.1 b22.2 with e | e
    · rw [if_neg (show ¬ 1 = S 23 by rw [h22, e]; decide)]
      have r0 := RX_log h 0 1
      have r1 := RX_int r0 14 (by decide) 1 1 23 rfl rfl (by decide) (by show _ ≤ (1 : Int); decide)
      have eq : st_fol1 x = xI (xG x 0 1) 14 1 := by
        rw [← xG_I (by decide) (by decide) (by decide)]
        simp only [st_fol1, f_X6_followTransmitter_1_o1_4, f_X6_followTransmitter_1_o1_5, f_X6_followTransmitter_1_o2_3, f_X6_followTransmitter_1_o2_4, f_X6_followTransmitter_1_o3, c, e, if_true, n01', n10', if_false]
        rw [upd_self]
        rfl
      rw [eq]; exact r1
    · rw [if_pos (show 1 = S 23 by rw [h22, e]; rfl)]
      have r1 := RX_int h 14 (by decide) 1 1 23 rfl rfl (by decide) (by show _ ≤ (1 : Int); decide)
      have eq : st_fol1 x = xI x 14 1 := by
        simp only [st_fol1, f_X6_followTransmitter_1_o1_4, f_X6_followTransmitter_1_o1_5, f_X6_followTransmitter_1_o2_3, f_X6_followTransmitter_1_o2_4, f_X6_followTransmitter_1_o3, c, e, if_true, n01', n10', if_false]
        rw [upd_self]
        exact xG_none (upd x.1 14 1) x.2
      rw [eq]; exact r1
theorem rx_flt2 {T : Int} {y : XS} {Z : Nat → Int64} (h : RX T y Z) (c : f_X8_isFaulty_r (y.1 17) = 0) :
    RX T (xI y 18 (f_X8_filter_o0_4 0 (y.1 15) (y.1 16) (y.1 17) (y.1 18))) (vp_updL Z 20 (Z 20 + f_X10_floor_r (f_X10_readingOf_r Z 2 2 - Z 20) (1 <<< (((Z 12).toInt32 : Int32).toInt64 &&& 63)))) := by
  have h6 : Z 8 = (y.1 15).toInt64 := h.1 15 (by decide)
  have h10 : Z 12 = (y.1 16).toInt64 := h.1 16 (by decide)
  have h14 : Z 16 = (y.1 17).toInt64 := h.1 17 (by decide)
  have h18 : Z 20 = (y.1 18).toInt64 := h.1 18 (by decide)
  have b6 : 100 ≤ (y.1 15).toInt ∧ (y.1 15).toInt ≤ 30000 := h.2.2.1 15 (by decide)
  have b10 : 0 ≤ (y.1 16).toInt ∧ (y.1 16).toInt ≤ 8 := h.2.2.1 16 (by decide)
  have b14 : 0 ≤ (y.1 17).toInt ∧ (y.1 17).toInt ≤ 65535 := h.2.2.1 17 (by decide)
  have b18 : -634 ≤ (y.1 18).toInt ∧ (y.1 18).toInt ≤ 30000 := h.2.2.1 18 (by decide)
  have eo : (0 : Int32).toInt = 0 := by decide
  obtain ⟨f1, f2, f3⟩ := pz_filter 0 (y.1 15) (y.1 16) (y.1 17) (y.1 18) (by omega) (by omega) b6.1 b6.2 (faulty_ge c) b14.2 b10.1 b10.2 (by omega) (by omega)
  have hr : f_X10_readingOf_r Z 2 2 = (0 : Int32).toInt64 + f_X10_floor_r ((y.1 15).toInt64 * ((y.1 17).toInt64 - 13107)) 52428 := by
    unfold f_X10_readingOf_r
    rw [if_neg (by decide)]
    show _ + f_X10_floor_r (Z 8 * (Z 16 - 13107)) 52428 = _
    rw [h6, h14]; rfl
  refine RX_int h 18 (by decide) _ _ 20 rfl ?_ (by show (-634 : Int) ≤ _; omega) (by show _ ≤ (30000 : Int); omega)
  rw [hr, h18, h10, f1]
theorem rx_fol2 {T : Int} {x : XS} {S : Nat → Int64} (h : RX T x S) : RX T (st_fol2 x) (g_X10_senses_3 S) := by
  have h14 : S 16 = (x.1 17).toInt64 := h.1 17 (by decide)
  have hF : f_X10_isFaulty_r S 2 = f_X8_isFaulty_r (x.1 17) := pz_faulty _ S 2 h14
  have h22 : S 24 = (x.1 19).toInt64 := h.1 19 (by decide)
  have b22 : 0 ≤ (x.1 19).toInt ∧ (x.1 19).toInt ≤ 1 := h.2.2.1 19 (by decide)
  have z0 : (0 : Int32).toInt64 = 0 := rfl
  have z1 : (1 : Int32).toInt64 = 1 := rfl
  unfold g_X10_senses_3
  rcases pz_faulty01 (x.1 17) with c | c
  · rw [if_pos (show f_X10_isFaulty_r S 2 = 0 by rw [hF, c])]
    rcases b01 b22.1 b22.2 with e | e
    · rw [if_pos (show 0 = S 24 by rw [h22, e]; rfl)]
      have r1 := RX_int h 19 (by decide) 0 0 24 rfl rfl (by decide) (by show _ ≤ (1 : Int); decide)
      have r2 := rx_flt2 r1 c
      have eq : st_fol2 x = xI (xI x 19 0) 18 (f_X8_filter_o0_4 0 (x.1 15) (x.1 16) (x.1 17) (x.1 18)) := by
        rw [xI_comm (by decide)]
        simp only [st_fol2, f_X6_followTransmitter_2_o1_4, f_X6_followTransmitter_2_o1_5, f_X6_followTransmitter_2_o2_3, f_X6_followTransmitter_2_o2_4, f_X6_followTransmitter_2_o3, c, e, if_true]
        exact xG_none (upd (upd x.1 18 _) 19 0) x.2
      rw [eq]; exact r2
    · rw [if_neg (show ¬ 0 = S 24 by rw [h22, e]; decide)]
      have r0 := RX_log h 1 2
      have r1 := RX_int r0 19 (by decide) 0 0 24 rfl rfl (by decide) (by show _ ≤ (1 : Int); decide)
      have r2 := rx_flt2 r1 c
      have eq : st_fol2 x = xI (xI (xG x 1 2) 19 0) 18 (f_X8_filter_o0_4 0 (x.1 15) (x.1 16) (x.1 17) (x.1 18)) := by
        rw [xI_comm (by decide), ← xG_I (by decide) (by decide) (by decide), ← xG_I (by decide) (by decide) (by decide)]
        simp only [st_fol2, f_X6_followTransmitter_2_o1_4, f_X6_followTransmitter_2_o1_5, f_X6_followTransmitter_2_o2_3, f_X6_followTransmitter_2_o2_4, f_X6_followTransmitter_2_o3, c, e, if_true, n01', n10', if_false]
        rfl
      rw [eq]; exact r2
  · rw [if_neg (show ¬ f_X10_isFaulty_r S 2 = 0 by rw [hF, c]; decide)]
    rcases b01 b22.1 b22.2 with e | e
    · rw [if_neg (show ¬ 1 = S 24 by rw [h22, e]; decide)]
      have r0 := RX_log h 0 2
      have r1 := RX_int r0 19 (by decide) 1 1 24 rfl rfl (by decide) (by show _ ≤ (1 : Int); decide)
      have eq : st_fol2 x = xI (xG x 0 2) 19 1 := by
        rw [← xG_I (by decide) (by decide) (by decide)]
        simp only [st_fol2, f_X6_followTransmitter_2_o1_4, f_X6_followTransmitter_2_o1_5, f_X6_followTransmitter_2_o2_3, f_X6_followTransmitter_2_o2_4, f_X6_followTransmitter_2_o3, c, e, if_true, n01', n10', if_false]
        rw [upd_self]
        rfl
      rw [eq]; exact r1
    · rw [if_pos (show 1 = S 24 by rw [h22, e]; rfl)]
      have r1 := RX_int h 19 (by decide) 1 1 24 rfl rfl (by decide) (by show _ ≤ (1 : Int); decide)
      have eq : st_fol2 x = xI x 19 1 := by
        simp only [st_fol2, f_X6_followTransmitter_2_o1_4, f_X6_followTransmitter_2_o1_5, f_X6_followTransmitter_2_o2_3, f_X6_followTransmitter_2_o2_4, f_X6_followTransmitter_2_o3, c, e, if_true, n01', n10', if_false]
        rw [upd_self]
        exact xG_none (upd x.1 19 1) x.2
      rw [eq]; exact r1
theorem rx_flt3 {T : Int} {y : XS} {Z : Nat → Int64} (h : RX T y Z) (c : f_X8_isFaulty_r (y.1 22) = 0) :
    RX T (xI y 23 (f_X8_filter_o0_4 (-500) (y.1 20) (y.1 21) (y.1 22) (y.1 23))) (vp_updL Z 21 (Z 21 + f_X10_floor_r (f_X10_readingOf_r Z 3 3 - Z 21) (1 <<< (((Z 13).toInt32 : Int32).toInt64 &&& 63)))) := by
  have h6 : Z 9 = (y.1 20).toInt64 := h.1 20 (by decide)
  have h10 : Z 13 = (y.1 21).toInt64 := h.1 21 (by decide)
  have h14 : Z 17 = (y.1 22).toInt64 := h.1 22 (by decide)
  have h18 : Z 21 = (y.1 23).toInt64 := h.1 23 (by decide)
  have b6 : 100 ≤ (y.1 20).toInt ∧ (y.1 20).toInt ≤ 30000 := h.2.2.1 20 (by decide)
  have b10 : 0 ≤ (y.1 21).toInt ∧ (y.1 21).toInt ≤ 8 := h.2.2.1 21 (by decide)
  have b14 : 0 ≤ (y.1 22).toInt ∧ (y.1 22).toInt ≤ 65535 := h.2.2.1 22 (by decide)
  have b18 : -1134 ≤ (y.1 23).toInt ∧ (y.1 23).toInt ≤ 29500 := h.2.2.1 23 (by decide)
  have eo : ((-500) : Int32).toInt = -500 := by decide
  obtain ⟨f1, f2, f3⟩ := pz_filter (-500) (y.1 20) (y.1 21) (y.1 22) (y.1 23) (by omega) (by omega) b6.1 b6.2 (faulty_ge c) b14.2 b10.1 b10.2 (by omega) (by omega)
  have hr : f_X10_readingOf_r Z 3 3 = ((-500) : Int32).toInt64 + f_X10_floor_r ((y.1 20).toInt64 * ((y.1 22).toInt64 - 13107)) 52428 := by
    unfold f_X10_readingOf_r
    rw [if_pos (by decide)]
    show _ + f_X10_floor_r (Z 9 * (Z 17 - 13107)) 52428 = _
    rw [h6, h14]; rfl
  refine RX_int h 23 (by decide) _ _ 21 rfl ?_ (by show (-1134 : Int) ≤ _; omega) (by show _ ≤ (29500 : Int); omega)
  rw [hr, h18, h10, f1]
theorem rx_fol3 {T : Int} {x : XS} {S : Nat → Int64} (h : RX T x S) : RX T (st_fol3 x) (g_X10_senses_4 S) := by
  have h14 : S 17 = (x.1 22).toInt64 := h.1 22 (by decide)
  have hF : f_X10_isFaulty_r S 3 = f_X8_isFaulty_r (x.1 22) := pz_faulty _ S 3 h14
  have h22 : S 25 = (x.1 24).toInt64 := h.1 24 (by decide)
  have b22 : 0 ≤ (x.1 24).toInt ∧ (x.1 24).toInt ≤ 1 := h.2.2.1 24 (by decide)
  have z0 : (0 : Int32).toInt64 = 0 := rfl
  have z1 : (1 : Int32).toInt64 = 1 := rfl
  unfold g_X10_senses_4
  rcases pz_faulty01 (x.1 22) with c | c
  · rw [if_pos (show f_X10_isFaulty_r S 3 = 0 by rw [hF, c])]
    rcases b01 b22.1 b22.2 with e | e
    · rw [if_pos (show 0 = S 25 by rw [h22, e]; rfl)]
      have r1 := RX_int h 24 (by decide) 0 0 25 rfl rfl (by decide) (by show _ ≤ (1 : Int); decide)
      have r2 := rx_flt3 r1 c
      have eq : st_fol3 x = xI (xI x 24 0) 23 (f_X8_filter_o0_4 (-500) (x.1 20) (x.1 21) (x.1 22) (x.1 23)) := by
        rw [xI_comm (by decide)]
        simp only [st_fol3, f_X6_followTransmitter_3_o1_4, f_X6_followTransmitter_3_o1_5, f_X6_followTransmitter_3_o2_3, f_X6_followTransmitter_3_o2_4, f_X6_followTransmitter_3_o3, c, e, if_true]
        exact xG_none (upd (upd x.1 23 _) 24 0) x.2
      rw [eq]; exact r2
    · rw [if_neg (show ¬ 0 = S 25 by rw [h22, e]; decide)]
      have r0 := RX_log h 1 3
      have r1 := RX_int r0 24 (by decide) 0 0 25 rfl rfl (by decide) (by show _ ≤ (1 : Int); decide)
      have r2 := rx_flt3 r1 c
      have eq : st_fol3 x = xI (xI (xG x 1 3) 24 0) 23 (f_X8_filter_o0_4 (-500) (x.1 20) (x.1 21) (x.1 22) (x.1 23)) := by
        rw [xI_comm (by decide), ← xG_I (by decide) (by decide) (by decide), ← xG_I (by decide) (by decide) (by decide)]
        simp only [st_fol3, f_X6_followTransmitter_3_o1_4, f_X6_followTransmitter_3_o1_5, f_X6_followTransmitter_3_o2_3, f_X6_followTransmitter_3_o2_4, f_X6_followTransmitter_3_o3, c, e, if_true, n01', n10', if_false]
        rfl
      rw [eq]; exact r2
  · rw [if_neg (show ¬ f_X10_isFaulty_r S 3 = 0 by rw [hF, c]; decide)]
    rcases b01 b22.1 b22.2 with e | e
    · rw [if_neg (show ¬ 1 = S 25 by rw [h22, e]; decide)]
      have r0 := RX_log h 0 3
      have r1 := RX_int r0 24 (by decide) 1 1 25 rfl rfl (by decide) (by show _ ≤ (1 : Int); decide)
      have eq : st_fol3 x = xI (xG x 0 3) 24 1 := by
        rw [← xG_I (by decide) (by decide) (by decide)]
        simp only [st_fol3, f_X6_followTransmitter_3_o1_4, f_X6_followTransmitter_3_o1_5, f_X6_followTransmitter_3_o2_3, f_X6_followTransmitter_3_o2_4, f_X6_followTransmitter_3_o3, c, e, if_true, n01', n10', if_false]
        rw [upd_self]
        rfl
      rw [eq]; exact r1
    · rw [if_pos (show 1 = S 25 by rw [h22, e]; rfl)]
      have r1 := RX_int h 24 (by decide) 1 1 25 rfl rfl (by decide) (by show _ ≤ (1 : Int); decide)
      have eq : st_fol3 x = xI x 24 1 := by
        simp only [st_fol3, f_X6_followTransmitter_3_o1_4, f_X6_followTransmitter_3_o1_5, f_X6_followTransmitter_3_o2_3, f_X6_followTransmitter_3_o2_4, f_X6_followTransmitter_3_o3, c, e, if_true, n01', n10', if_false]
        rw [upd_self]
        exact xG_none (upd x.1 24 1) x.2
      rw [eq]; exact r1
theorem pz_pct (c : Int32) (k : Int64) (ck : Int32) (hck : ck.toInt64 = k) (h0 : 0 ≤ ck.toInt) (h1 : ck.toInt ≤ 100) (b0 : 100 ≤ c.toInt) (b1 : c.toInt ≤ 30000) : (f_J9_floorDiv_7cf53_r (ck * c) 100).toInt64 = (k * c.toInt64) / 100 := by
  have hm := pz_mulb (a := ck.toInt) (b := c.toInt) (A := 100) (B := 30000) h0 h1 (by omega) b1
  have m1 : (ck * c).toInt64 = k * c.toInt64 := by rw [pz_mul (by omega) (by omega), hck]
  have m2 : (k * c.toInt64).toInt = ck.toInt * c.toInt := by rw [← m1, pz_t, Kit.i32_mul (by omega) (by omega)]
  rw [pz_fd (by decide), m1]
  exact pz_div (by rw [m2]; exact hm.1) (by decide)
theorem rx_chosen {T : Int} {x : XS} {S : Nat → Int64} (h : RX T x S) : f_X10_chosen_r S = (f_X6_chosenRange_r (x.1 2) (x.1 5) (x.1 7) (x.1 8) (x.1 12) (x.1 13)).toInt64 ∧ (f_X6_chosenRange_r (x.1 2) (x.1 5) (x.1 7) (x.1 8) (x.1 12) (x.1 13) = 0 ∨ f_X6_chosenRange_r (x.1 2) (x.1 5) (x.1 7) (x.1 8) (x.1 12) (x.1 13) = 1) := by
  have hF0 : f_X10_isFaulty_r S 0 = f_X8_isFaulty_r (x.1 7) := pz_faulty _ S 0 (h.1 7 (by decide))
  have hF1 : f_X10_isFaulty_r S 1 = f_X8_isFaulty_r (x.1 12) := pz_faulty _ S 1 (h.1 12 (by decide))
  have h37 : S 37 = (x.1 2).toInt64 := h.1 2 (by decide)
  have b37 : 0 ≤ (x.1 2).toInt ∧ (x.1 2).toInt ≤ 1 := h.2.2.1 2 (by decide)
  have h18 : S 18 = (x.1 8).toInt64 := h.1 8 (by decide)
  have h19 : S 19 = (x.1 13).toInt64 := h.1 13 (by decide)
  have h6 : S 6 = (x.1 5).toInt64 := h.1 5 (by decide)
  have b6 : 100 ≤ (x.1 5).toInt ∧ (x.1 5).toInt ≤ 30000 := h.2.2.1 5 (by decide)
  have p95 := pz_pct (x.1 5) 95 95 rfl (by decide) (by decide) b6.1 b6.2
  have p90 := pz_pct (x.1 5) 90 90 rfl (by decide) (by decide) b6.1 b6.2
  have z37 : S 37 = 0 ↔ x.1 2 = 0 := by rw [h37, show (0 : Int64) = (0 : Int32).toInt64 from rfl, pz_inj]
  unfold f_X10_chosen_r f_X6_chosenRange_r
  rw [hF0, hF1, h18, h19, h6, ← p95, ← p90]
  rcases pz_faulty01 (x.1 7) with c | c
  · rcases pz_faulty01 (x.1 12) with d | d
    · simp only [c, d, if_true]
      by_cases e : x.1 2 = 0
      · rw [if_pos (z37.mpr e), if_pos e]
        by_cases g : x.1 8 < f_J9_floorDiv_7cf53_r (95 * x.1 5) 100
        · rw [if_pos (pz_lt.mpr g), if_pos g]; exact ⟨rfl, Or.inl rfl⟩
        · rw [if_neg (fun z => g (pz_lt.mp z)), if_neg g]; exact ⟨rfl, Or.inr rfl⟩
      · rw [if_neg (fun z => e (z37.mp z)), if_neg e]
        by_cases g : f_J9_floorDiv_7cf53_r (90 * x.1 5) 100 ≤ x.1 13
        · rw [if_pos (pz_le.mpr g), if_pos g]; exact ⟨rfl, Or.inr rfl⟩
        · rw [if_neg (fun z => g (pz_le.mp z)), if_neg g]; exact ⟨rfl, Or.inl rfl⟩
    · simp only [c, d, if_true, n10', if_false]; exact ⟨rfl, Or.inl trivial⟩
  · rcases pz_faulty01 (x.1 12) with d | d
    · simp only [c, d, if_true, n10', if_false]; exact ⟨rfl, Or.inr trivial⟩
    · simp only [c, d, n10', if_false]
      exact ⟨h37, b01 b37.1 b37.2⟩
theorem rx_choose {T : Int} {x : XS} {S : Nat → Int64} (h : RX T x S) : RX T (st_choose x) (g_X10_ranges_0 S) := by
  obtain ⟨hc, hc1⟩ := rx_chosen h
  have h37 : S 37 = (x.1 2).toInt64 := h.1 2 (by decide)
  obtain ⟨q, hq⟩ : ∃ z, z = f_X6_chosenRange_r (x.1 2) (x.1 5) (x.1 7) (x.1 8) (x.1 12) (x.1 13) := ⟨_, rfl⟩
  rw [← hq] at hc hc1
  unfold g_X10_ranges_0
  rw [hc]
  by_cases e : q = x.1 2
  · rw [if_pos (show q.toInt64 = S 37 by rw [h37, e])]
    have eq : st_choose x = x := by
      unfold st_choose f_X6_chooseRange_o0_6 f_X6_chooseRange_o3_3 f_X6_chooseRange_o3_4 f_X6_chooseRange_o4
      rw [← hq, if_pos e, if_pos e, if_pos e, if_pos e, upd_self]
      exact xG_none x.1 x.2
    rw [eq]; exact h
  · rw [if_neg (show ¬ q.toInt64 = S 37 by rw [h37, pz_inj]; exact e)]
    have eq : st_choose x = xG (xI x 2 q) 2 q.toInt64 := by
      unfold st_choose f_X6_chooseRange_o0_6 f_X6_chooseRange_o3_3 f_X6_chooseRange_o3_4 f_X6_chooseRange_o4
      rw [← hq, if_neg e, if_neg e, if_neg e, if_neg e]
      rfl
    rw [eq]
    exact RX_log (RX_int h 2 (by decide) q _ 37 rfl rfl (by rcases hc1 with z | z <;> rw [z] <;> decide) (by rcases hc1 with z | z <;> rw [z] <;> show _ ≤ (1 : Int) <;> decide)) 2 q.toInt64
theorem rx_meas {T : Int} {x : XS} {S : Nat → Int64} (h : RX T x S) (hT : T < 2000000000) : RX (T + 1) (st_meas x) (g_X10_ranges_1 S) := by
  have hF0 : f_X10_isFaulty_r S 0 = f_X8_isFaulty_r (x.1 7) := pz_faulty _ S 0 (h.1 7 (by decide))
  have hF1 : f_X10_isFaulty_r S 1 = f_X8_isFaulty_r (x.1 12) := pz_faulty _ S 1 (h.1 12 (by decide))
  have h37 : S 37 = (x.1 2).toInt64 := h.1 2 (by decide)
  have h38 : S 38 = (x.1 3).toInt64 := h.1 3 (by decide)
  have h39 : S 39 = (x.1 4).toInt64 := h.1 4 (by decide)
  have b37 : 0 ≤ (x.1 2).toInt ∧ (x.1 2).toInt ≤ 1 := h.2.2.1 2 (by decide)
  have b38 : 0 ≤ (x.1 3).toInt ∧ (x.1 3).toInt ≤ T := h.2.2.1 3 (by decide)
  have b39 : 0 ≤ (x.1 4).toInt ∧ (x.1 4).toInt ≤ 30000 := h.2.2.1 4 (by decide)
  have h18 : S 18 = (x.1 8).toInt64 := h.1 8 (by decide)
  have h19 : S 19 = (x.1 13).toInt64 := h.1 13 (by decide)
  have b18 : -634 ≤ (x.1 8).toInt ∧ (x.1 8).toInt ≤ 30000 := h.2.2.1 8 (by decide)
  have b19 : -634 ≤ (x.1 13).toInt ∧ (x.1 13).toInt ≤ 30000 := h.2.2.1 13 (by decide)
  have e1 : (1 : Int32).toInt = 1 := by decide
  have h' : RX (T + 1) x S := RX_mono h (by omega)
  -- a sound range
  have snd : RX (T + 1) (xI (xI x 3 0) 4 (if x.1 2 = 0 then (if (0 : Int32) < x.1 8 then x.1 8 else 0) else (if (0 : Int32) < x.1 13 then x.1 13 else 0)))
      (if ((vp_updL S 38 0) (18 + ((vp_updL S 38 0) 37).toInt.toNat)) ≤ 0 then ((vp_updL (vp_updL S 38 0) 39 0)) else ((vp_updL (vp_updL S 38 0) 39 ((vp_updL S 38 0) (18 + ((vp_updL S 38 0) 37).toInt.toNat))))) := by
    have r1 := RX_int h' 3 (by decide) 0 0 38 rfl rfl (by decide) (by show _ ≤ T + 1; rw [show (0 : Int32).toInt = 0 from rfl]; omega)
    have one : ∀ v : Int32, v.toInt ≤ 30000 → vp_updL S 38 0 (18 + ((vp_updL S 38 0) 37).toInt.toNat) = v.toInt64 → RX (T + 1) (xI (xI x 3 0) 4 (if (0 : Int32) < v then v else 0)) (if ((vp_updL S 38 0) (18 + ((vp_updL S 38 0) 37).toInt.toNat)) ≤ 0 then ((vp_updL (vp_updL S 38 0) 39 0)) else ((vp_updL (vp_updL S 38 0) 39 ((vp_updL S 38 0) (18 + ((vp_updL S 38 0) 37).toInt.toNat))))) := by
      intro v hv e
      rw [e]
      by_cases c : (0 : Int32) < v
      · have c' : 0 < v.toInt := by rw [Int32.lt_iff_toInt_lt] at c; exact c
        rw [if_pos c, if_neg (fun z => by rw [Int64.le_iff_toInt_le, pz_t] at z; have z' : v.toInt ≤ 0 := z; omega)]
        exact RX_int r1 4 (by decide) v _ 39 rfl rfl (by show (0 : Int) ≤ _; omega) (by show _ ≤ (30000 : Int); omega)
      · have c' : ¬ 0 < v.toInt := by rw [Int32.lt_iff_toInt_lt] at c; exact c
        rw [if_neg c, if_pos (by rw [Int64.le_iff_toInt_le, pz_t]; show v.toInt ≤ 0; omega)]
        exact RX_int r1 4 (by decide) 0 _ 39 rfl rfl (by decide) (by show _ ≤ (30000 : Int); decide)
    have e37 : vp_updL S 38 0 37 = (x.1 2).toInt64 := h37
    rcases b01 b37.1 b37.2 with e | e
    · rw [if_pos e]
      exact one (x.1 8) b18.2 (by rw [e37, e]; exact h18)
    · rw [if_neg (by rw [e]; decide)]
      exact one (x.1 13) b19.2 (by rw [e37, e]; exact h19)
  have sndeq : ∀ v : Int32, (xI (xI x 3 0) 4 v) = (upd (upd (upd (upd x.1 3 0) 4 v) 43 (x.1 43)) 44 (x.1 44), x.2.1, x.2.2.1, updB x.2.2.2 2 (x.2.2.2 2)) := fun v => (xG_none (upd (upd x.1 3 0) 4 v) x.2).symm
  unfold g_X10_ranges_1
  rw [hF0, hF1]
  rcases pz_faulty01 (x.1 7) with c | c
  · rw [if_pos c]
    have eq : st_meas x = (xI (xI x 3 0) 4 (if x.1 2 = 0 then (if (0 : Int32) < x.1 8 then x.1 8 else 0) else (if (0 : Int32) < x.1 13 then x.1 13 else 0))) := by
      rw [sndeq]
      simp only [st_meas, f_X6_measureDifferential_o0_7, f_X6_measureDifferential_o0_8, f_X6_measureDifferential_o3_3, f_X6_measureDifferential_o3_4, f_X6_measureDifferential_o4, c, if_true]
    rw [eq]; exact snd
  · rw [if_neg (by rw [c]; decide)]
    rcases pz_faulty01 (x.1 12) with d | d
    · rw [if_pos d]
      have eq : st_meas x = (xI (xI x 3 0) 4 (if x.1 2 = 0 then (if (0 : Int32) < x.1 8 then x.1 8 else 0) else (if (0 : Int32) < x.1 13 then x.1 13 else 0))) := by
        rw [sndeq]
        simp only [st_meas, f_X6_measureDifferential_o0_7, f_X6_measureDifferential_o0_8, f_X6_measureDifferential_o3_3, f_X6_measureDifferential_o3_4, f_X6_measureDifferential_o4, c, d, n10', if_true, if_false]
      rw [eq]; exact snd
    · rw [if_neg (by rw [d]; decide)]
      have hv : (x.1 3 + 1).toInt = (x.1 3).toInt + 1 := by rw [Kit.i32_add (by rw [e1]; omega) (by rw [e1]; omega), e1]
      have hv64 : (x.1 3 + 1).toInt64 = (x.1 3).toInt64 + 1 := pz_add (by rw [e1]; omega) (by rw [e1]; omega)
      obtain ⟨w, hw⟩ : ∃ z, z = x.1 3 + 1 := ⟨_, rfl⟩
      have e38 : S 38 + 1 = w.toInt64 := by rw [h38, hw, hv64]
      have r1 := RX_int h' 3 (by decide) w (S 38 + 1) 38 rfl e38 (by show (0 : Int) ≤ _; rw [hw, hv]; omega) (by show _ ≤ T + 1; rw [hw, hv]; omega)
      have g38 : vp_updL S 38 (S 38 + 1) 38 = w.toInt64 := by rw [vpu_at, e38]
      have w11 : w.toInt64 = 11 ↔ w = 11 := by rw [show (11 : Int64) = (11 : Int32).toInt64 from rfl, pz_inj]
      have w10 : w.toInt64 ≤ 10 ↔ w < 11 := by
        rw [Int64.le_iff_toInt_le, Int32.lt_iff_toInt_lt, pz_t]
        rw [show (10 : Int64).toInt = 10 from by decide, show (11 : Int32).toInt = 11 from by decide]; omega
      rw [g38]
      have hs : st_meas x = (upd (upd (upd (upd x.1 3 w) 4 (f_X6_hold_o0_8 (x.1 3) (x.1 4))) 43 (f_X6_hold_o1_3 (x.1 3) (x.1 43) (x.1 44))) 44 (f_X6_hold_o1_4 (x.1 3) (x.1 44)), x.2.1, x.2.2.1, updB x.2.2.2 2 (f_X6_hold_o2 (x.1 0) (x.1 3) (x.1 43) (x.1 44) (x.2.2.2 2))) := by
        rw [hw]
        simp only [st_meas, f_X6_measureDifferential_o0_7, f_X6_measureDifferential_o0_8, f_X6_measureDifferential_o3_3, f_X6_measureDifferential_o3_4, f_X6_measureDifferential_o4, f_X6_hold_o0_7, c, d, n10', if_false]
      rw [hs]
      unfold f_X6_hold_o0_8 f_X6_hold_o1_3 f_X6_hold_o1_4 f_X6_hold_o2
      rw [← hw]
      by_cases p : w = 11
      · rw [if_pos (w11.mpr p), if_pos p, if_pos p, if_pos p, if_pos p]
        have r2 := RX_log r1 3 0
        have l38 : f_X10_logs_o1 (vp_updL S 38 (S 38 + 1)) 3 0 38 = w.toInt64 := r2.1 3 (by decide)
        rw [l38, if_neg (show ¬ w.toInt64 ≤ 10 from fun z => by have := w10.mp z; rw [p] at this; exact absurd this (by decide)), if_neg (show ¬ w < 11 from fun z => by rw [p] at z; exact absurd z (by decide))]
        have r3 := RX_int r2 4 (by decide) 0 0 39 rfl rfl (by decide) (by show _ ≤ (30000 : Int); decide)
        rw [← xG_I (by decide) (by decide) (by decide)] at r3
        exact r3
      · rw [if_neg (fun z => p (w11.mp z)), if_neg p, if_neg p, if_neg p, if_neg p]
        have l39 : vp_updL S 38 (S 38 + 1) 39 = (x.1 4).toInt64 := h39
        rw [l39]
        by_cases q : w < 11
        · rw [if_pos (show w.toInt64 ≤ 10 from w10.mpr q), if_pos q]
          have r3 := RX_int r1 4 (by decide) (x.1 4) _ 39 rfl rfl (by show (0 : Int) ≤ _; omega) (by show _ ≤ (30000 : Int); omega)
          rw [show ((upd (upd (upd (upd x.1 3 w) 4 (x.1 4)) 43 (x.1 43)) 44 (x.1 44), x.2.1, x.2.2.1, updB x.2.2.2 2 (x.2.2.2 2)) : XS) = xI (xI x 3 w) 4 (x.1 4) from xG_none (upd (upd x.1 3 w) 4 (x.1 4)) x.2]
          exact r3
        · rw [if_neg (show ¬ w.toInt64 ≤ 10 from fun z => q (w10.mp z)), if_neg q]
          have r3 := RX_int r1 4 (by decide) 0 0 39 rfl rfl (by decide) (by show _ ≤ (30000 : Int); decide)
          rw [show ((upd (upd (upd (upd x.1 3 w) 4 0) 43 (x.1 43)) 44 (x.1 44), x.2.1, x.2.2.1, updB x.2.2.2 2 (x.2.2.2 2)) : XS) = xI (xI x 3 w) 4 0 from xG_none (upd (upd x.1 3 w) 4 0) x.2]
          exact r3
theorem rx_time {T : Int} {x : XS} {S : Nat → Int64} (h : RX T x S) (hT : T < 2000000000) : RX (T + 1) (st_time x) (md_a S) := by
  have h0 : S 0 = (x.1 0).toInt64 := h.1 0 (by decide)
  have b0 : 0 ≤ (x.1 0).toInt ∧ (x.1 0).toInt ≤ T := h.2.2.1 0 (by decide)
  have e1 : (1 : Int32).toInt = 1 := by decide
  have hv : (x.1 0 + 1).toInt = (x.1 0).toInt + 1 := by rw [Kit.i32_add (by rw [e1]; omega) (by rw [e1]; omega), e1]
  have hv64 : (x.1 0 + 1).toInt64 = (x.1 0).toInt64 + 1 := pz_add (by rw [e1]; omega) (by rw [e1]; omega)
  exact RX_int (RX_mono h (by omega)) 0 (by decide) (x.1 0 + 1) _ 0 rfl (by rw [h0, hv64]) (by show (0 : Int) ≤ _; rw [hv]; omega) (by show _ ≤ T + 1; rw [hv]; omega)
