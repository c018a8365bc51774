theorem ub_at (f : Nat → Nat → Int64) (k : Nat) (v : Nat → Int64) : updB f k v k = v := by unfold updB; rw [if_pos rfl]
theorem ub_ne (f : Nat → Nat → Int64) {k j : Nat} (v : Nat → Int64) (h : ¬ j = k) : updB f k v j = f j := by unfold updB; rw [if_neg h]
/-- the mean of an hour: class and reference -/
theorem rx_mean {un ul : Int32} {ud uld : Int64} (hl : 0 < ul.toInt) : (if un.toInt64 ≤ 0 then f_X10_floor_r uld ul.toInt64 else f_X10_floor_r ud un.toInt64) = (if un ≤ 0 then f_X7_mean_r ul uld else f_X7_mean_r un ud) := by
  by_cases c : un ≤ 0
  · rw [if_pos c, if_pos (m_le0.mpr c)]
    unfold f_X7_mean_r
    rw [if_neg (fun z => by rw [Int32.le_iff_toInt_le] at z; have z' : ul.toInt ≤ 0 := z; omega)]
    exact pz_floor (by rw [pz_t]; exact hl)
  · rw [if_neg c, if_neg (fun z => c (m_le0.mp z))]
    unfold f_X7_mean_r
    rw [if_neg c]
    have : 0 < un.toInt := by
      rw [Int32.le_iff_toInt_le] at c; have c' : ¬ un.toInt ≤ 0 := c; omega
    exact pz_floor (by rw [pz_t]; exact this)
theorem rec_eq (tm : Int32) (um : Int64) (ua : Int32) (uwn : Int32) (uwd : Int64) (uwp : Int64) (uwt : Int64) (uln : Int32) (uld : Int64) (ulp : Int64) (ult : Int64) (go : Int32) (gn : Int32) (gf : Nat → Int64) (a c : Nat) (ha : f_X4_addRow_o0_3 24 go gn = nI a) (hc : f_X4_addRow_o0_4 24 gn = nI c) :
    f_X6_recordHour_o5 tm um ua uwn uwd uwp uwt uln uld ulp ult go gn gf = (f_X4_put_o1 168 24 7 (nI a) (nI c) (f_X4_put_o1 168 24 7 (nI a) (nI c) (f_X4_put_o1 168 24 7 (nI a) (nI c) (f_X4_put_o1 168 24 7 (nI a) (nI c) (f_X4_put_o1 168 24 7 (nI a) (nI c) (f_X4_put_o1 168 24 7 (nI a) (nI c) (f_X4_put_o1 168 24 7 (nI a) (nI c) gf 0 um) 1 uwn.toInt64) 2 (if uwn ≤ 0 then f_X7_mean_r uln uld else f_X7_mean_r uwn uwd)) 3 (if uwn ≤ 0 then f_X7_mean_r uln ulp else f_X7_mean_r uwn uwp)) 4 (if uwn ≤ 0 then f_X7_mean_r uln ult else f_X7_mean_r uwn uwt)) 5 ua.toInt64) 6 tm.toInt64) := by
  unfold f_X6_recordHour_o5
  rw [ha, hc]
  by_cases z : uwn ≤ 0
  · simp only [if_pos z]
  · simp only [if_neg z]
theorem rx_hour {T : Int} {x : XS} {S : Nat → Int64} (h : RX T x S) (hl : 0 < (x.1 37).toInt) {S5 : Nat → Int64} (h5 : S5 = g_X10_endsHour_4 (g_X10_endsHour_3 S (g_X10_endsHour_2 S (g_X10_endsHour_1 S (g_X10_endsHour_0 S))))) :
    RX T (upd (upd x.1 39 (f_X6_endHour_o5_3 (x.1 39) (x.1 40))) 40 (f_X6_endHour_o5_4 (x.1 40)), x.2.1, x.2.2.1, updB x.2.2.2 0 (f_X6_endHour_o6 (x.1 0) (x.2.1 4) (x.1 35) (x.1 36) (x.2.1 5) (x.2.1 6) (x.2.1 7) (x.1 37) (x.2.1 8) (x.2.1 9) (x.2.1 10) (x.1 39) (x.1 40) (x.2.2.2 0)))
      (vp_updL (vp_updL S5 ((md_at 63 7 24 S) + 5) (S5 51)) ((md_at 63 7 24 S) + 6) ((vp_updL S5 ((md_at 63 7 24 S) + 5) (S5 51)) 0)) := by
  obtain ⟨a, c, k3, k4, k5, k6⟩ := rg_add rg0 h.2.2.2.2.1
  have hat := md_at_eq (w := 7) k5
  have hc : 1 ≤ c ∧ c ≤ 24 := ⟨k6.2.1, k6.2.2.1⟩
  have s0 : S 0 = (x.1 0).toInt64 := h.1 0 (by decide)
  have s50 : S 50 = x.2.1 4 := h.2.1 4 (by decide)
  have s51 : S 51 = (x.1 35).toInt64 := h.1 35 (by decide)
  have s52 : S 52 = (x.1 36).toInt64 := h.1 36 (by decide)
  have s59 : S 59 = (x.1 37).toInt64 := h.1 37 (by decide)
  have s53 : S 53 = x.2.1 5 := h.2.1 5 (by decide)
  have s54 : S 54 = x.2.1 6 := h.2.1 6 (by decide)
  have s55 : S 55 = x.2.1 7 := h.2.1 7 (by decide)
  have s56 : S 56 = x.2.1 8 := h.2.1 8 (by decide)
  have s57 : S 57 = x.2.1 9 := h.2.1 9 (by decide)
  have s58 : S 58 = x.2.1 10 := h.2.1 10 (by decide)
  obtain ⟨p, hp⟩ : ∃ p, p = md_at 63 7 24 S := ⟨_, rfl⟩
  have hp' : p = 63 + 1 + 7 * (c - 1) := by rw [hp, hat]
  have up : ∀ (Q : Nat → Int64) (i : Nat) (v : Int64), i < 7 → (∀ j, j < 63 ∨ 232 ≤ j → Q j = S j) → ∀ j, j < 63 ∨ 232 ≤ j → vp_updL Q (p + i) v j = S j := by
    intro Q i v hi hQ j hj
    rw [vpu_ne _ _ (by omega)]; exact hQ j hj
  have A0 : ∀ j, j < 63 ∨ 232 ≤ j → md_comes 63 7 24 161 S j = S j := fun j hj => md_comes_out (b := 63) (w := 7) (cap := 24) j (by omega)
  obtain ⟨P0, e0⟩ : ∃ Q, Q = md_comes 63 7 24 161 S := ⟨_, rfl⟩
  rw [← e0] at A0
  have k6' : relRp 63 7 24 P0 a c (x.2.2.2 0) 0 := by rw [e0]; exact k6
  have q1 := rg_put1 rg0 k6' (by decide) (x.2.1 4)
  have q2 := rg_put1 rg0 q1 (by decide) (x.1 36).toInt64
  rw [← hp'] at q1 q2
  have A1 := up P0 0 (x.2.1 4) (by decide) A0
  have A2 := up _ 1 (x.1 36).toInt64 (by decide) A1
  have g0 : g_X10_endsHour_0 S = vp_updL (vp_updL P0 (p + 0) (x.2.1 4)) (p + 1) (x.1 36).toInt64 := by
    unfold g_X10_endsHour_0
    rw [← e0, ← hp]
    have z1 : P0 50 = x.2.1 4 := by rw [A0 50 (by omega), s50]
    rw [z1]
    have z2 : vp_updL P0 p (x.2.1 4) 52 = (x.1 36).toInt64 := by rw [show p = p + 0 from rfl, A1 52 (by omega), s52]
    rw [z2]; rfl
  rw [g0] at h5
  obtain ⟨P2, e2⟩ : ∃ Q, Q = vp_updL (vp_updL P0 (p + 0) (x.2.1 4)) (p + 1) (x.1 36).toInt64 := ⟨_, rfl⟩
  rw [← e2] at h5 A2 q2
  have g1 : g_X10_endsHour_1 S P2 = vp_updL P2 (p + 2) (if x.1 36 ≤ 0 then f_X7_mean_r (x.1 37) (x.2.1 8) else f_X7_mean_r (x.1 36) (x.2.1 5)) := by
    unfold g_X10_endsHour_1
    rw [← rx_mean hl, A2 52 (by omega), A2 56 (by omega), A2 59 (by omega), A2 53 (by omega), s52, s59, s56, s53, ← hp]
    split <;> rfl
  rw [g1] at h5
  have q3 := rg_put1 rg0 q2 (by decide) (if x.1 36 ≤ 0 then f_X7_mean_r (x.1 37) (x.2.1 8) else f_X7_mean_r (x.1 36) (x.2.1 5))
  rw [← hp'] at q3
  have A3 := up P2 2 (if x.1 36 ≤ 0 then f_X7_mean_r (x.1 37) (x.2.1 8) else f_X7_mean_r (x.1 36) (x.2.1 5)) (by decide) A2
  obtain ⟨P3, e3⟩ : ∃ Q, Q = vp_updL P2 (p + 2) (if x.1 36 ≤ 0 then f_X7_mean_r (x.1 37) (x.2.1 8) else f_X7_mean_r (x.1 36) (x.2.1 5)) := ⟨_, rfl⟩
  rw [← e3] at h5 A3 q3
  have g2 : g_X10_endsHour_2 S P3 = vp_updL P3 (p + 3) (if x.1 36 ≤ 0 then f_X7_mean_r (x.1 37) (x.2.1 9) else f_X7_mean_r (x.1 36) (x.2.1 6)) := by
    unfold g_X10_endsHour_2
    rw [← rx_mean hl, A3 52 (by omega), A3 57 (by omega), A3 59 (by omega), A3 54 (by omega), s52, s59, s57, s54, ← hp]
    split <;> rfl
  rw [g2] at h5
  have q4 := rg_put1 rg0 q3 (by decide) (if x.1 36 ≤ 0 then f_X7_mean_r (x.1 37) (x.2.1 9) else f_X7_mean_r (x.1 36) (x.2.1 6))
  rw [← hp'] at q4
  have A4 := up P3 3 (if x.1 36 ≤ 0 then f_X7_mean_r (x.1 37) (x.2.1 9) else f_X7_mean_r (x.1 36) (x.2.1 6)) (by decide) A3
  obtain ⟨P4, e4⟩ : ∃ Q, Q = vp_updL P3 (p + 3) (if x.1 36 ≤ 0 then f_X7_mean_r (x.1 37) (x.2.1 9) else f_X7_mean_r (x.1 36) (x.2.1 6)) := ⟨_, rfl⟩
  rw [← e4] at h5 A4 q4
  have g3 : g_X10_endsHour_3 S P4 = vp_updL P4 (p + 4) (if x.1 36 ≤ 0 then f_X7_mean_r (x.1 37) (x.2.1 10) else f_X7_mean_r (x.1 36) (x.2.1 7)) := by
    unfold g_X10_endsHour_3
    rw [← rx_mean hl, A4 52 (by omega), A4 58 (by omega), A4 59 (by omega), A4 55 (by omega), s52, s59, s58, s55, ← hp]
    split <;> rfl
  rw [g3] at h5
  have q5 := rg_put1 rg0 q4 (by decide) (if x.1 36 ≤ 0 then f_X7_mean_r (x.1 37) (x.2.1 10) else f_X7_mean_r (x.1 36) (x.2.1 7))
  rw [← hp'] at q5
  have A5 := up P4 4 (if x.1 36 ≤ 0 then f_X7_mean_r (x.1 37) (x.2.1 10) else f_X7_mean_r (x.1 36) (x.2.1 7)) (by decide) A4
  obtain ⟨P5, e5⟩ : ∃ Q, Q = vp_updL P4 (p + 4) (if x.1 36 ≤ 0 then f_X7_mean_r (x.1 37) (x.2.1 10) else f_X7_mean_r (x.1 36) (x.2.1 7)) := ⟨_, rfl⟩
  rw [← e5] at h5 A5 q5
  have h5' : S5 = P5 := h5
  rw [h5', ← hp]
  have z5 : P5 51 = (x.1 35).toInt64 := by rw [A5 51 (by omega), s51]
  rw [z5]
  have q6 := rg_put1 rg0 q5 (by decide) (x.1 35).toInt64
  rw [← hp'] at q6
  have A6 := up P5 5 (x.1 35).toInt64 (by decide) A5
  have z6 : vp_updL P5 (p + 5) (x.1 35).toInt64 0 = (x.1 0).toInt64 := by rw [A6 0 (by omega), s0]
  rw [z6]
  have q7 := rg_put1 rg0 q6 (by decide) (x.1 0).toInt64
  rw [← hp'] at q7
  have A7 := up _ 6 (x.1 0).toInt64 (by decide) A6
  have hr := relR_of q7
  have e3 : f_X6_endHour_o5_3 (x.1 39) (x.1 40) = nI a := k3
  have e4 : f_X6_endHour_o5_4 (x.1 40) = nI c := k4
  have eg : f_X6_endHour_o6 (x.1 0) (x.2.1 4) (x.1 35) (x.1 36) (x.2.1 5) (x.2.1 6) (x.2.1 7) (x.1 37) (x.2.1 8) (x.2.1 9) (x.2.1 10) (x.1 39) (x.1 40) (x.2.2.2 0) = _ := rec_eq (x.1 0) (x.2.1 4) (x.1 35) (x.1 36) (x.2.1 5) (x.2.1 6) (x.2.1 7) (x.1 37) (x.2.1 8) (x.2.1 9) (x.2.1 10) (x.1 39) (x.1 40) (x.2.2.2 0) a c k3 k4
  rw [e3, e4, eg]
  exact RX_ring0 h A7 _ _ _ hr
theorem rx_day {T : Int} {y : XS} {Z : Nat → Int64} (h : RX T y Z) (hT : 0 ≤ T) :
    RX T (upd (upd (upd y.1 38 0) 41 (f_X6_recordDay_o2_3 (y.1 41) (y.1 42))) 42 (f_X6_recordDay_o2_4 (y.1 42)), vp_updL (vp_updL y.2.1 11 0) 12 0, y.2.2.1, updB y.2.2.2 1 (f_X6_recordDay_o3 (y.1 0) (y.2.1 11) (y.2.1 12) (y.1 38) (y.1 41) (y.1 42) (y.2.2.2 1))) (f_X10_endsDay_o1 Z) := by
  obtain ⟨a, c, k3, k4, k5, k6⟩ := rg_add rg1 h.2.2.2.2.2.1
  have hat := md_at_eq (w := 4) k5
  have hc : 1 ≤ c ∧ c ≤ 5 := ⟨k6.2.1, k6.2.2.1⟩
  have s0 : Z 0 = (y.1 0).toInt64 := h.1 0 (by decide)
  have s60 : Z 60 = y.2.1 11 := h.2.1 11 (by decide)
  have s61 : Z 61 = y.2.1 12 := h.2.1 12 (by decide)
  have s62 : Z 62 = (y.1 38).toInt64 := h.1 38 (by decide)
  obtain ⟨p, hp⟩ : ∃ p, p = md_at 232 4 5 Z := ⟨_, rfl⟩
  have hp' : p = 232 + 1 + 4 * (c - 1) := by rw [hp, hat]
  obtain ⟨P0, e0⟩ : ∃ Q, Q = md_comes 232 4 5 16 Z := ⟨_, rfl⟩
  have A0 : ∀ j, j < 232 ∨ 253 ≤ j → P0 j = Z j := fun j hj => by rw [e0]; exact md_comes_out (b := 232) (w := 4) (cap := 5) j (by omega)
  have k6' : relRp 232 4 5 P0 a c (y.2.2.2 1) 0 := by rw [e0]; exact k6
  have low : ∀ (Q : Nat → Int64) (s : Nat) (g : Nat → Int64) (m : Nat), s < 63 → m ≤ 4 → relRp 232 4 5 Q a c g m → relRp 232 4 5 (vp_updL Q s 0) a c g m := fun Q s g m hs hm hr => relRp_congr rg1 hm hr (fun j h1 h2 => vpu_ne _ _ (by omega))
  have W1 := RX_long h 11 (by decide) 0 0 60 rfl rfl
  have W2 := RX_long W1 12 (by decide) 0 0 61 rfl rfl
  have W3 := RX_int W2 38 (by decide) 0 0 62 rfl rfl (by decide) (by show _ ≤ T; rw [show (0 : Int32).toInt = 0 from rfl]; exact hT)
  have q1 := rg_put1 rg1 k6' (by decide) (y.2.1 11)
  have q1' := low _ 60 _ _ (by decide) (by decide) q1
  have q2 := rg_put1 rg1 q1' (by decide) (y.2.1 12)
  have q2' := low _ 61 _ _ (by decide) (by decide) q2
  have q3 := rg_put1 rg1 q2' (by decide) (y.1 38).toInt64
  have q3' := low _ 62 _ _ (by decide) (by decide) q3
  have q4 := rg_put1 rg1 q3' (by decide) (y.1 0).toInt64
  rw [← hp'] at q1 q1' q2 q2' q3 q3' q4
  have hr := relR_of q4
  unfold f_X10_endsDay_o1
  rw [← e0, ← hp]
  have z1 : P0 60 = y.2.1 11 := by rw [A0 60 (by omega), s60]
  rw [z1]
  have z2 : vp_updL (vp_updL P0 (p + 0) (y.2.1 11)) 60 0 61 = y.2.1 12 := by rw [vpu_ne _ _ (by decide), vpu_ne _ _ (by omega), A0 61 (by omega), s61]
  rw [z2]
  have z3 : vp_updL (vp_updL (vp_updL (vp_updL P0 (p + 0) (y.2.1 11)) 60 0) (p + 1) (y.2.1 12)) 61 0 62 = (y.1 38).toInt64 := by rw [vpu_ne _ _ (by decide), vpu_ne _ _ (by omega), vpu_ne _ _ (by decide), vpu_ne _ _ (by omega), A0 62 (by omega), s62]
  rw [z3]
  have z4 : vp_updL (vp_updL (vp_updL (vp_updL (vp_updL (vp_updL P0 (p + 0) (y.2.1 11)) 60 0) (p + 1) (y.2.1 12)) 61 0) (p + 2) (y.1 38).toInt64) 62 0 0 = (y.1 0).toInt64 := by rw [vpu_ne _ _ (by decide), vpu_ne _ _ (by omega), vpu_ne _ _ (by decide), vpu_ne _ _ (by omega), vpu_ne _ _ (by decide), vpu_ne _ _ (by omega), A0 0 (by omega), s0]
  rw [z4]
  have e3 : f_X6_recordDay_o2_3 (y.1 41) (y.1 42) = nI a := k3
  have e4 : f_X6_recordDay_o2_4 (y.1 42) = nI c := k4
  have eg : f_X6_recordDay_o3 (y.1 0) (y.2.1 11) (y.2.1 12) (y.1 38) (y.1 41) (y.1 42) (y.2.2.2 1) = f_X4_put_o1 20 5 4 (nI a) (nI c) (f_X4_put_o1 20 5 4 (nI a) (nI c) (f_X4_put_o1 20 5 4 (nI a) (nI c) (f_X4_put_o1 20 5 4 (nI a) (nI c) (y.2.2.2 1) 0 (y.2.1 11)) 1 (y.2.1 12)) 2 (y.1 38).toInt64) 3 (y.1 0).toInt64 := by
    unfold f_X6_recordDay_o3
    rw [show f_X4_addRow_o0_3 5 (y.1 41) (y.1 42) = nI a from k3, show f_X4_addRow_o0_4 5 (y.1 42) = nI c from k4]
  rw [e3, e4, eg]
  refine RX_ring1 W3 (fun j hj => ?_) _ _ _ hr
  rw [vpu_ne _ _ (show ¬ j = p + 3 by omega)]
  by_cases c62 : j = 62
  · subst c62; rw [vpu_at, vpu_at]
  rw [vpu_ne _ _ c62, vpu_ne _ _ (show ¬ j = p + 2 by omega), vpu_ne _ _ c62]
  by_cases c61 : j = 61
  · subst c61; rw [vpu_at, vpu_at]
  rw [vpu_ne _ _ c61, vpu_ne _ _ (show ¬ j = p + 1 by omega), vpu_ne _ _ c61]
  by_cases c60 : j = 60
  · subst c60; rw [vpu_at, vpu_at]
  rw [vpu_ne _ _ c60, vpu_ne _ _ (show ¬ j = p + 0 by omega), vpu_ne _ _ c60]
  exact A0 j hj
theorem pz_idivZ {x y : Int32} (hx : 0 ≤ x.toInt) (hy : 0 < y.toInt) : (x / y).toInt = x.toInt / y.toInt := by
  rw [Kit.i32_div (by omega)]; exact Int.tdiv_eq_ediv_of_nonneg hx
theorem pz_idiv {x y : Int32} (hx : 0 ≤ x.toInt) (hy : 0 < y.toInt) : (x / y).toInt64 = x.toInt64 / y.toInt64 := by
  apply pz_ext
  rw [pz_t, pz_idivZ hx hy, pz_divZ (by rw [pz_t]; exact hx) (by rw [pz_t]; exact hy), pz_t, pz_t]
theorem pz_mod (x y : Int32) (hx : 0 ≤ x.toInt) (hy : 0 < y.toInt) : (x - x / y * y).toInt64 = x.toInt64 - x.toInt64 / y.toInt64 * y.toInt64 ∧ 0 ≤ (x - x / y * y).toInt := by
  have h1 := pz_idivZ hx hy
  have h2 := x.toInt_lt
  have h3 : 0 ≤ x.toInt / y.toInt * y.toInt := Int.mul_nonneg (Int.ediv_nonneg hx (Int.le_of_lt hy)) (Int.le_of_lt hy)
  have h4 : x.toInt / y.toInt * y.toInt ≤ x.toInt := Int.ediv_mul_le _ (by omega)
  have h5 : (x / y * y).toInt = x.toInt / y.toInt * y.toInt := by rw [Kit.i32_mul (by rw [h1]; omega) (by rw [h1]; omega), h1]
  refine ⟨?_, ?_⟩
  · rw [pz_sub (by rw [h5]; omega) (by rw [h5]; omega), pz_mul (by rw [h1]; omega) (by rw [h1]; omega), pz_idiv hx hy]
  · rw [Kit.i32_sub (by rw [h5]; omega) (by rw [h5]; omega), h5]; omega
theorem pz_hourEnd {t : Int32} (ht : 0 ≤ t.toInt) : (t.toInt64 - t.toInt64 / 3600 * 3600 = 0) ↔ (t - t / 3600 * 3600 = 0) := by
  have h := (pz_mod t 3600 ht (by decide)).1
  rw [show (3600 : Int64) = (3600 : Int32).toInt64 from rfl, ← h, show (0 : Int64) = (0 : Int32).toInt64 from rfl, pz_inj]
theorem pz_dayEnd {t c : Int32} (ht : 0 ≤ t.toInt) : (t.toInt64 / 3600 - t.toInt64 / 3600 / 24 * 24 = c.toInt64) ↔ (t / 3600 - t / 3600 / 24 * 24 = c) := by
  have h0 : 0 ≤ (t / 3600).toInt := by rw [pz_idivZ ht (by decide)]; exact Int.ediv_nonneg ht (by decide)
  have h1 : (t / 3600).toInt64 = t.toInt64 / 3600 := pz_idiv ht (by decide)
  have h := (pz_mod (t / 3600) 24 h0 (by decide)).1
  rw [← h1, show (24 : Int64) = (24 : Int32).toInt64 from rfl, ← h, pz_inj]
def eh_1 (p : Nat) (S : Nat → Int64) : Nat → Int64 := vp_updL (vp_updL S (p + 5) (S 51)) (p + 6) (vp_updL S (p + 5) (S 51) 0)
def eh_2 (Z : Nat → Int64) : Nat → Int64 := vp_updL Z 60 (Z 60 + Z 50)
def eh_3 (Z : Nat → Int64) : Nat → Int64 := vp_updL Z 61 (Z 61 + Z 52)
def eh_4 (Z : Nat → Int64) : Nat → Int64 := vp_updL Z 62 (Z 62 + 1)
def eh_5 (Z : Nat → Int64) : Nat → Int64 := vp_updL (vp_updL (vp_updL (vp_updL (vp_updL (vp_updL (vp_updL (vp_updL (vp_updL (vp_updL Z 50 0) 51 0) 52 0) 53 0) 54 0) 55 0) 56 0) 57 0) 58 0) 59 0
theorem eh_all (S S5 Z : Nat → Int64) (hZ : Z = eh_5 (eh_4 (eh_3 (eh_2 (eh_1 (md_at 63 7 24 S) S5))))) : g_X10_endsHour_5 S S5 = if Z 0 / 3600 - Z 0 / 3600 / 24 * 24 = Z 5 then f_X10_endsDay_o1 Z else Z := by
  rw [hZ]; rfl
theorem rx_last {T : Int} {x : XS} {S : Nat → Int64} (h : RX T x S) (hl : 0 < (x.1 37).toInt) (hT : T < 2000000000) :
    RX (T + 1) (st_last x) (if S 0 - S 0 / 3600 * 3600 = 0 then (g_X10_endsHour_5 S (g_X10_endsHour_4 (g_X10_endsHour_3 S (g_X10_endsHour_2 S (g_X10_endsHour_1 S (g_X10_endsHour_0 S)))))) else S) := by
  have b0 : 0 ≤ (x.1 0).toInt ∧ (x.1 0).toInt ≤ T := h.2.2.1 0 (by decide)
  have b38 : 0 ≤ (x.1 38).toInt ∧ (x.1 38).toInt ≤ T := h.2.2.1 38 (by decide)
  have s0 : S 0 = (x.1 0).toInt64 := h.1 0 (by decide)
  rw [s0]
  unfold st_last
  by_cases e : x.1 0 - x.1 0 / 3600 * 3600 = 0
  · rw [if_pos e, if_pos ((pz_hourEnd b0.1).mpr e)]
    obtain ⟨S5, h5⟩ : ∃ Q, Q = (g_X10_endsHour_4 (g_X10_endsHour_3 S (g_X10_endsHour_2 S (g_X10_endsHour_1 S (g_X10_endsHour_0 S))))) := ⟨_, rfl⟩
    rw [← h5]
    have r1 := RX_mono (U := T + 1) (rx_hour h hl h5) (by omega)
    obtain ⟨Z1, hZ1⟩ : ∃ Q, Q = eh_1 (md_at 63 7 24 S) S5 := ⟨_, rfl⟩
    have r1' : RX (T + 1) (upd (upd x.1 39 (f_X6_endHour_o5_3 (x.1 39) (x.1 40))) 40 (f_X6_endHour_o5_4 (x.1 40)), x.2.1, x.2.2.1, updB x.2.2.2 0 (f_X6_endHour_o6 (x.1 0) (x.2.1 4) (x.1 35) (x.1 36) (x.2.1 5) (x.2.1 6) (x.2.1 7) (x.1 37) (x.2.1 8) (x.2.1 9) (x.2.1 10) (x.1 39) (x.1 40) (x.2.2.2 0))) Z1 := by rw [hZ1]; exact r1
    have a60 : Z1 60 = x.2.1 11 := r1'.2.1 11 (by decide)
    have a50 : Z1 50 = x.2.1 4 := r1'.2.1 4 (by decide)
    have r2 := RX_long r1' 11 (by decide) (x.2.1 11 + x.2.1 4) (Z1 60 + Z1 50) 60 rfl (by rw [a60, a50])
    obtain ⟨Z2, hZ2⟩ : ∃ Q, Q = eh_2 Z1 := ⟨_, rfl⟩
    rw [show vp_updL Z1 60 (Z1 60 + Z1 50) = Z2 from hZ2.symm] at r2
    have a61 : Z2 61 = x.2.1 12 := r2.2.1 12 (by decide)
    have a52 : Z2 52 = (x.1 36).toInt64 := r2.1 36 (by decide)
    have r3 := RX_long r2 12 (by decide) (x.2.1 12 + (x.1 36).toInt64) (Z2 61 + Z2 52) 61 rfl (by rw [a61, a52])
    obtain ⟨Z3, hZ3⟩ : ∃ Q, Q = eh_3 Z2 := ⟨_, rfl⟩
    rw [show vp_updL Z2 61 (Z2 61 + Z2 52) = Z3 from hZ3.symm] at r3
    have a62 : Z3 62 = (x.1 38).toInt64 := r3.1 38 (by decide)
    have e1 : (1 : Int32).toInt = 1 := by decide
    have i38 : (x.1 38 + 1).toInt = (x.1 38).toInt + 1 := by rw [Kit.i32_add (by rw [e1]; omega) (by rw [e1]; omega), e1]
    have j38 : (x.1 38 + 1).toInt64 = (x.1 38).toInt64 + 1 := pz_add (by rw [e1]; omega) (by rw [e1]; omega)
    have r4 := RX_int r3 38 (by decide) (x.1 38 + 1) (Z3 62 + 1) 62 rfl (by rw [a62, j38]) (by show (0 : Int) ≤ _; omega) (by show _ ≤ T + 1; omega)
    obtain ⟨Z4, hZ4⟩ : ∃ Q, Q = eh_4 Z3 := ⟨_, rfl⟩
    rw [show vp_updL Z3 62 (Z3 62 + 1) = Z4 from hZ4.symm] at r4
    have z0 : (0 : Int32).toInt = 0 := rfl
    have r5 := RX_long r4 4 (by decide) 0 0 50 rfl rfl
    have r6 := RX_int r5 35 (by decide) 0 0 51 rfl rfl (by decide) (by show _ ≤ (31 : Int); decide)
    have r7 := RX_int r6 36 (by decide) 0 0 52 rfl rfl (by decide) (by show _ ≤ T + 1; rw [z0]; omega)
    have r8 := RX_long r7 5 (by decide) 0 0 53 rfl rfl
    have r9 := RX_long r8 6 (by decide) 0 0 54 rfl rfl
    have r10 := RX_long r9 7 (by decide) 0 0 55 rfl rfl
    have r11 := RX_long r10 8 (by decide) 0 0 56 rfl rfl
    have r12 := RX_long r11 9 (by decide) 0 0 57 rfl rfl
    have r13 := RX_long r12 10 (by decide) 0 0 58 rfl rfl
    have r14 := RX_int r13 37 (by decide) 0 0 59 rfl rfl (by decide) (by show _ ≤ T + 1; rw [z0]; omega)
    obtain ⟨Z, hZ⟩ : ∃ Q, Q = eh_5 Z4 := ⟨_, rfl⟩
    obtain ⟨y, hy⟩ : ∃ y : XS, y = (upd (upd (upd (upd (upd (upd x.1 39 (f_X6_endHour_o5_3 (x.1 39) (x.1 40))) 40 (f_X6_endHour_o5_4 (x.1 40))) 38 (x.1 38 + 1)) 35 0) 36 0) 37 0, vp_updL (vp_updL (vp_updL (vp_updL (vp_updL (vp_updL (vp_updL (vp_updL (vp_updL x.2.1 11 (x.2.1 11 + x.2.1 4)) 12 (x.2.1 12 + (x.1 36).toInt64)) 4 0) 5 0) 6 0) 7 0) 8 0) 9 0) 10 0, x.2.2.1, updB x.2.2.2 0 (f_X6_endHour_o6 (x.1 0) (x.2.1 4) (x.1 35) (x.1 36) (x.2.1 5) (x.2.1 6) (x.2.1 7) (x.1 37) (x.2.1 8) (x.2.1 9) (x.2.1 10) (x.1 39) (x.1 40) (x.2.2.2 0))) := ⟨_, rfl⟩
    have r : RX (T + 1) y Z := by rw [hy, hZ]; exact r14
    rw [eh_all S S5 Z (by rw [hZ, hZ4, hZ3, hZ2, hZ1])]
    have y1 : y.1 = upd (upd (upd (upd (upd (upd x.1 39 (f_X6_endHour_o5_3 (x.1 39) (x.1 40))) 40 (f_X6_endHour_o5_4 (x.1 40))) 38 (x.1 38 + 1)) 35 0) 36 0) 37 0 := by rw [hy]
    have y2 : y.2.1 = vp_updL (vp_updL (vp_updL (vp_updL (vp_updL (vp_updL (vp_updL (vp_updL (vp_updL x.2.1 11 (x.2.1 11 + x.2.1 4)) 12 (x.2.1 12 + (x.1 36).toInt64)) 4 0) 5 0) 6 0) 7 0) 8 0) 9 0) 10 0 := by rw [hy]
    have y3 : y.2.2.1 = x.2.2.1 := by rw [hy]
    have y4 : y.2.2.2 = updB x.2.2.2 0 (f_X6_endHour_o6 (x.1 0) (x.2.1 4) (x.1 35) (x.1 36) (x.2.1 5) (x.2.1 6) (x.2.1 7) (x.1 37) (x.2.1 8) (x.2.1 9) (x.2.1 10) (x.1 39) (x.1 40) (x.2.2.2 0)) := by rw [hy]
    have f0 : y.1 0 = x.1 0 := by rw [y1, upd_ne _ _ (show ¬ 0 = 37 by decide), upd_ne _ _ (show ¬ 0 = 36 by decide), upd_ne _ _ (show ¬ 0 = 35 by decide), upd_ne _ _ (show ¬ 0 = 38 by decide), upd_ne _ _ (show ¬ 0 = 40 by decide), upd_ne _ _ (show ¬ 0 = 39 by decide)]
    have f1 : y.1 1 = x.1 1 := by rw [y1, upd_ne _ _ (show ¬ 1 = 37 by decide), upd_ne _ _ (show ¬ 1 = 36 by decide), upd_ne _ _ (show ¬ 1 = 35 by decide), upd_ne _ _ (show ¬ 1 = 38 by decide), upd_ne _ _ (show ¬ 1 = 40 by decide), upd_ne _ _ (show ¬ 1 = 39 by decide)]
    have f38 : y.1 38 = x.1 38 + 1 := by rw [y1, upd_ne _ _ (show ¬ 38 = 37 by decide), upd_ne _ _ (show ¬ 38 = 36 by decide), upd_ne _ _ (show ¬ 38 = 35 by decide), upd_at]
    have f41 : y.1 41 = x.1 41 := by rw [y1, upd_ne _ _ (show ¬ 41 = 37 by decide), upd_ne _ _ (show ¬ 41 = 36 by decide), upd_ne _ _ (show ¬ 41 = 35 by decide), upd_ne _ _ (show ¬ 41 = 38 by decide), upd_ne _ _ (show ¬ 41 = 40 by decide), upd_ne _ _ (show ¬ 41 = 39 by decide)]
    have f42 : y.1 42 = x.1 42 := by rw [y1, upd_ne _ _ (show ¬ 42 = 37 by decide), upd_ne _ _ (show ¬ 42 = 36 by decide), upd_ne _ _ (show ¬ 42 = 35 by decide), upd_ne _ _ (show ¬ 42 = 38 by decide), upd_ne _ _ (show ¬ 42 = 40 by decide), upd_ne _ _ (show ¬ 42 = 39 by decide)]
    have l11 : y.2.1 11 = x.2.1 11 + x.2.1 4 := by rw [y2, vpu_ne _ _ (show ¬ 11 = 10 by decide), vpu_ne _ _ (show ¬ 11 = 9 by decide), vpu_ne _ _ (show ¬ 11 = 8 by decide), vpu_ne _ _ (show ¬ 11 = 7 by decide), vpu_ne _ _ (show ¬ 11 = 6 by decide), vpu_ne _ _ (show ¬ 11 = 5 by decide), vpu_ne _ _ (show ¬ 11 = 4 by decide), vpu_ne _ _ (show ¬ 11 = 12 by decide), vpu_at]
    have l12 : y.2.1 12 = x.2.1 12 + (x.1 36).toInt64 := by rw [y2, vpu_ne _ _ (show ¬ 12 = 10 by decide), vpu_ne _ _ (show ¬ 12 = 9 by decide), vpu_ne _ _ (show ¬ 12 = 8 by decide), vpu_ne _ _ (show ¬ 12 = 7 by decide), vpu_ne _ _ (show ¬ 12 = 6 by decide), vpu_ne _ _ (show ¬ 12 = 5 by decide), vpu_ne _ _ (show ¬ 12 = 4 by decide), vpu_at]
    have g1 : y.2.2.2 1 = x.2.2.2 1 := by rw [y4, ub_ne _ _ (by decide)]
    have t0 : Z 0 = (x.1 0).toInt64 := by rw [← f0]; exact r.1 0 (by decide)
    have t5 : Z 5 = (x.1 1).toInt64 := by rw [← f1]; exact r.1 1 (by decide)
    rw [t0, t5]
    unfold f_X6_endHour_o4_0 f_X6_endHour_o4_1 f_X6_endHour_o4_2 f_X6_endHour_o7_3 f_X6_endHour_o7_4 f_X6_endHour_o8 f_X2_add_o0_0 f_X2_add_o0_1 f_X2_add_o0_2
    by_cases d : x.1 0 / 3600 - x.1 0 / 3600 / 24 * 24 = x.1 1
    · rw [if_pos ((pz_dayEnd b0.1).mpr d), if_pos d, if_pos d, if_pos d, if_pos d, if_pos d, if_pos d]
      have r' := rx_day r (by omega)
      rw [f0, f38, f41, f42, l11, l12, g1, y1, y2, y3, y4] at r'
      have eq : ((upd (upd (upd (upd (upd (upd (upd (upd x.1 35 0) 36 0) 37 0) 38 0) 39 (f_X6_endHour_o5_3 (x.1 39) (x.1 40))) 40 (f_X6_endHour_o5_4 (x.1 40))) 41 (f_X6_recordDay_o2_3 (x.1 41) (x.1 42))) 42 (f_X6_recordDay_o2_4 (x.1 42)), vp_updL (vp_updL (vp_updL (vp_updL (vp_updL (vp_updL (vp_updL (vp_updL (vp_updL x.2.1 4 0) 5 0) 6 0) 7 0) 8 0) 9 0) 10 0) 11 0) 12 0, x.2.2.1, updB (updB x.2.2.2 0 (f_X6_endHour_o6 (x.1 0) (x.2.1 4) (x.1 35) (x.1 36) (x.2.1 5) (x.2.1 6) (x.2.1 7) (x.1 37) (x.2.1 8) (x.2.1 9) (x.2.1 10) (x.1 39) (x.1 40) (x.2.2.2 0))) 1 (f_X6_recordDay_o3 (x.1 0) (x.2.1 11 + x.2.1 4) (x.2.1 12 + (x.1 36).toInt64) (x.1 38 + 1) (x.1 41) (x.1 42) (x.2.2.2 1))) : XS) = (upd (upd (upd (upd (upd (upd (upd (upd (upd x.1 39 (f_X6_endHour_o5_3 (x.1 39) (x.1 40))) 40 (f_X6_endHour_o5_4 (x.1 40))) 38 (x.1 38 + 1)) 35 0) 36 0) 37 0) 38 0) 41 (f_X6_recordDay_o2_3 (x.1 41) (x.1 42))) 42 (f_X6_recordDay_o2_4 (x.1 42)), vp_updL (vp_updL (vp_updL (vp_updL (vp_updL (vp_updL (vp_updL (vp_updL (vp_updL (vp_updL (vp_updL x.2.1 11 (x.2.1 11 + x.2.1 4)) 12 (x.2.1 12 + (x.1 36).toInt64)) 4 0) 5 0) 6 0) 7 0) 8 0) 9 0) 10 0) 11 0) 12 0, x.2.2.1, updB (updB x.2.2.2 0 (f_X6_endHour_o6 (x.1 0) (x.2.1 4) (x.1 35) (x.1 36) (x.2.1 5) (x.2.1 6) (x.2.1 7) (x.1 37) (x.2.1 8) (x.2.1 9) (x.2.1 10) (x.1 39) (x.1 40) (x.2.2.2 0))) 1 (f_X6_recordDay_o3 (x.1 0) (x.2.1 11 + x.2.1 4) (x.2.1 12 + (x.1 36).toInt64) (x.1 38 + 1) (x.1 41) (x.1 42) (x.2.2.2 1))) := by
        refine Prod.ext (funext fun j => ?_) (Prod.ext (funext fun j => ?_) rfl)
        · show upd (upd (upd (upd (upd (upd (upd (upd x.1 35 _) 36 _) 37 _) 38 _) 39 _) 40 _) 41 _) 42 _ j = upd (upd (upd (upd (upd (upd (upd (upd (upd x.1 39 _) 40 _) 38 _) 35 _) 36 _) 37 _) 38 _) 41 _) 42 _ j
          by_cases c35 : j = 35
          · subst c35
            rw [upd_ne _ _ (show ¬ 35 = 42 by decide), upd_ne _ _ (show ¬ 35 = 41 by decide), upd_ne _ _ (show ¬ 35 = 40 by decide), upd_ne _ _ (show ¬ 35 = 39 by decide), upd_ne _ _ (show ¬ 35 = 38 by decide), upd_ne _ _ (show ¬ 35 = 37 by decide), upd_ne _ _ (show ¬ 35 = 36 by decide), upd_at, upd_ne _ _ (show ¬ 35 = 42 by decide), upd_ne _ _ (show ¬ 35 = 41 by decide), upd_ne _ _ (show ¬ 35 = 38 by decide), upd_ne _ _ (show ¬ 35 = 37 by decide), upd_ne _ _ (show ¬ 35 = 36 by decide), upd_at]
          by_cases c36 : j = 36
          · subst c36
            rw [upd_ne _ _ (show ¬ 36 = 42 by decide), upd_ne _ _ (show ¬ 36 = 41 by decide), upd_ne _ _ (show ¬ 36 = 40 by decide), upd_ne _ _ (show ¬ 36 = 39 by decide), upd_ne _ _ (show ¬ 36 = 38 by decide), upd_ne _ _ (show ¬ 36 = 37 by decide), upd_at, upd_ne _ _ (show ¬ 36 = 42 by decide), upd_ne _ _ (show ¬ 36 = 41 by decide), upd_ne _ _ (show ¬ 36 = 38 by decide), upd_ne _ _ (show ¬ 36 = 37 by decide), upd_at]
          by_cases c37 : j = 37
          · subst c37
            rw [upd_ne _ _ (show ¬ 37 = 42 by decide), upd_ne _ _ (show ¬ 37 = 41 by decide), upd_ne _ _ (show ¬ 37 = 40 by decide), upd_ne _ _ (show ¬ 37 = 39 by decide), upd_ne _ _ (show ¬ 37 = 38 by decide), upd_at, upd_ne _ _ (show ¬ 37 = 42 by decide), upd_ne _ _ (show ¬ 37 = 41 by decide), upd_ne _ _ (show ¬ 37 = 38 by decide), upd_at]
          by_cases c38 : j = 38
          · subst c38
            rw [upd_ne _ _ (show ¬ 38 = 42 by decide), upd_ne _ _ (show ¬ 38 = 41 by decide), upd_ne _ _ (show ¬ 38 = 40 by decide), upd_ne _ _ (show ¬ 38 = 39 by decide), upd_at, upd_ne _ _ (show ¬ 38 = 42 by decide), upd_ne _ _ (show ¬ 38 = 41 by decide), upd_at]
          by_cases c39 : j = 39
          · subst c39
            rw [upd_ne _ _ (show ¬ 39 = 42 by decide), upd_ne _ _ (show ¬ 39 = 41 by decide), upd_ne _ _ (show ¬ 39 = 40 by decide), upd_at, upd_ne _ _ (show ¬ 39 = 42 by decide), upd_ne _ _ (show ¬ 39 = 41 by decide), upd_ne _ _ (show ¬ 39 = 38 by decide), upd_ne _ _ (show ¬ 39 = 37 by decide), upd_ne _ _ (show ¬ 39 = 36 by decide), upd_ne _ _ (show ¬ 39 = 35 by decide), upd_ne _ _ (show ¬ 39 = 38 by decide), upd_ne _ _ (show ¬ 39 = 40 by decide), upd_at]
          by_cases c40 : j = 40
          · subst c40
            rw [upd_ne _ _ (show ¬ 40 = 42 by decide), upd_ne _ _ (show ¬ 40 = 41 by decide), upd_at, upd_ne _ _ (show ¬ 40 = 42 by decide), upd_ne _ _ (show ¬ 40 = 41 by decide), upd_ne _ _ (show ¬ 40 = 38 by decide), upd_ne _ _ (show ¬ 40 = 37 by decide), upd_ne _ _ (show ¬ 40 = 36 by decide), upd_ne _ _ (show ¬ 40 = 35 by decide), upd_ne _ _ (show ¬ 40 = 38 by decide), upd_at]
          by_cases c41 : j = 41
          · subst c41
            rw [upd_ne _ _ (show ¬ 41 = 42 by decide), upd_at, upd_ne _ _ (show ¬ 41 = 42 by decide), upd_at]
          by_cases c42 : j = 42
          · subst c42
            rw [upd_at, upd_at]
          rw [upd_ne _ _ c42, upd_ne _ _ c41, upd_ne _ _ c40, upd_ne _ _ c39, upd_ne _ _ c38, upd_ne _ _ c37, upd_ne _ _ c36, upd_ne _ _ c35, upd_ne _ _ c42, upd_ne _ _ c41, upd_ne _ _ c38, upd_ne _ _ c37, upd_ne _ _ c36, upd_ne _ _ c35, upd_ne _ _ c38, upd_ne _ _ c40, upd_ne _ _ c39]
        · show vp_updL (vp_updL (vp_updL (vp_updL (vp_updL (vp_updL (vp_updL (vp_updL (vp_updL x.2.1 4 _) 5 _) 6 _) 7 _) 8 _) 9 _) 10 _) 11 _) 12 _ j = vp_updL (vp_updL (vp_updL (vp_updL (vp_updL (vp_updL (vp_updL (vp_updL (vp_updL (vp_updL (vp_updL x.2.1 11 _) 12 _) 4 _) 5 _) 6 _) 7 _) 8 _) 9 _) 10 _) 11 _) 12 _ j
          by_cases c4 : j = 4
          · subst c4
            rw [vpu_ne _ _ (show ¬ 4 = 12 by decide), vpu_ne _ _ (show ¬ 4 = 11 by decide), vpu_ne _ _ (show ¬ 4 = 10 by decide), vpu_ne _ _ (show ¬ 4 = 9 by decide), vpu_ne _ _ (show ¬ 4 = 8 by decide), vpu_ne _ _ (show ¬ 4 = 7 by decide), vpu_ne _ _ (show ¬ 4 = 6 by decide), vpu_ne _ _ (show ¬ 4 = 5 by decide), vpu_at, vpu_ne _ _ (show ¬ 4 = 12 by decide), vpu_ne _ _ (show ¬ 4 = 11 by decide), vpu_ne _ _ (show ¬ 4 = 10 by decide), vpu_ne _ _ (show ¬ 4 = 9 by decide), vpu_ne _ _ (show ¬ 4 = 8 by decide), vpu_ne _ _ (show ¬ 4 = 7 by decide), vpu_ne _ _ (show ¬ 4 = 6 by decide), vpu_ne _ _ (show ¬ 4 = 5 by decide), vpu_at]
          by_cases c5 : j = 5
          · subst c5
            rw [vpu_ne _ _ (show ¬ 5 = 12 by decide), vpu_ne _ _ (show ¬ 5 = 11 by decide), vpu_ne _ _ (show ¬ 5 = 10 by decide), vpu_ne _ _ (show ¬ 5 = 9 by decide), vpu_ne _ _ (show ¬ 5 = 8 by decide), vpu_ne _ _ (show ¬ 5 = 7 by decide), vpu_ne _ _ (show ¬ 5 = 6 by decide), vpu_at, vpu_ne _ _ (show ¬ 5 = 12 by decide), vpu_ne _ _ (show ¬ 5 = 11 by decide), vpu_ne _ _ (show ¬ 5 = 10 by decide), vpu_ne _ _ (show ¬ 5 = 9 by decide), vpu_ne _ _ (show ¬ 5 = 8 by decide), vpu_ne _ _ (show ¬ 5 = 7 by decide), vpu_ne _ _ (show ¬ 5 = 6 by decide), vpu_at]
          by_cases c6 : j = 6
          · subst c6
            rw [vpu_ne _ _ (show ¬ 6 = 12 by decide), vpu_ne _ _ (show ¬ 6 = 11 by decide), vpu_ne _ _ (show ¬ 6 = 10 by decide), vpu_ne _ _ (show ¬ 6 = 9 by decide), vpu_ne _ _ (show ¬ 6 = 8 by decide), vpu_ne _ _ (show ¬ 6 = 7 by decide), vpu_at, vpu_ne _ _ (show ¬ 6 = 12 by decide), vpu_ne _ _ (show ¬ 6 = 11 by decide), vpu_ne _ _ (show ¬ 6 = 10 by decide), vpu_ne _ _ (show ¬ 6 = 9 by decide), vpu_ne _ _ (show ¬ 6 = 8 by decide), vpu_ne _ _ (show ¬ 6 = 7 by decide), vpu_at]
          by_cases c7 : j = 7
          · subst c7
            rw [vpu_ne _ _ (show ¬ 7 = 12 by decide), vpu_ne _ _ (show ¬ 7 = 11 by decide), vpu_ne _ _ (show ¬ 7 = 10 by decide), vpu_ne _ _ (show ¬ 7 = 9 by decide), vpu_ne _ _ (show ¬ 7 = 8 by decide), vpu_at, vpu_ne _ _ (show ¬ 7 = 12 by decide), vpu_ne _ _ (show ¬ 7 = 11 by decide), vpu_ne _ _ (show ¬ 7 = 10 by decide), vpu_ne _ _ (show ¬ 7 = 9 by decide), vpu_ne _ _ (show ¬ 7 = 8 by decide), vpu_at]
          by_cases c8 : j = 8
          · subst c8
            rw [vpu_ne _ _ (show ¬ 8 = 12 by decide), vpu_ne _ _ (show ¬ 8 = 11 by decide), vpu_ne _ _ (show ¬ 8 = 10 by decide), vpu_ne _ _ (show ¬ 8 = 9 by decide), vpu_at, vpu_ne _ _ (show ¬ 8 = 12 by decide), vpu_ne _ _ (show ¬ 8 = 11 by decide), vpu_ne _ _ (show ¬ 8 = 10 by decide), vpu_ne _ _ (show ¬ 8 = 9 by decide), vpu_at]
          by_cases c9 : j = 9
          · subst c9
            rw [vpu_ne _ _ (show ¬ 9 = 12 by decide), vpu_ne _ _ (show ¬ 9 = 11 by decide), vpu_ne _ _ (show ¬ 9 = 10 by decide), vpu_at, vpu_ne _ _ (show ¬ 9 = 12 by decide), vpu_ne _ _ (show ¬ 9 = 11 by decide), vpu_ne _ _ (show ¬ 9 = 10 by decide), vpu_at]
          by_cases c10 : j = 10
          · subst c10
            rw [vpu_ne _ _ (show ¬ 10 = 12 by decide), vpu_ne _ _ (show ¬ 10 = 11 by decide), vpu_at, vpu_ne _ _ (show ¬ 10 = 12 by decide), vpu_ne _ _ (show ¬ 10 = 11 by decide), vpu_at]
          by_cases c11 : j = 11
          · subst c11
            rw [vpu_ne _ _ (show ¬ 11 = 12 by decide), vpu_at, vpu_ne _ _ (show ¬ 11 = 12 by decide), vpu_at]
          by_cases c12 : j = 12
          · subst c12
            rw [vpu_at, vpu_at]
          rw [vpu_ne _ _ c12, vpu_ne _ _ c11, vpu_ne _ _ c10, vpu_ne _ _ c9, vpu_ne _ _ c8, vpu_ne _ _ c7, vpu_ne _ _ c6, vpu_ne _ _ c5, vpu_ne _ _ c4, vpu_ne _ _ c12, vpu_ne _ _ c11, vpu_ne _ _ c10, vpu_ne _ _ c9, vpu_ne _ _ c8, vpu_ne _ _ c7, vpu_ne _ _ c6, vpu_ne _ _ c5, vpu_ne _ _ c4, vpu_ne _ _ c12, vpu_ne _ _ c11]
      rw [eq]; exact r'
    · rw [if_neg (fun z => d ((pz_dayEnd b0.1).mp z)), if_neg d, if_neg d, if_neg d, if_neg d, if_neg d, if_neg d]
      have eq : ((upd (upd (upd (upd (upd (upd (upd (upd x.1 35 0) 36 0) 37 0) 38 (x.1 38 + 1)) 39 (f_X6_endHour_o5_3 (x.1 39) (x.1 40))) 40 (f_X6_endHour_o5_4 (x.1 40))) 41 (x.1 41)) 42 (x.1 42), vp_updL (vp_updL (vp_updL (vp_updL (vp_updL (vp_updL (vp_updL (vp_updL (vp_updL x.2.1 4 0) 5 0) 6 0) 7 0) 8 0) 9 0) 10 0) 11 (x.2.1 11 + x.2.1 4)) 12 (x.2.1 12 + (x.1 36).toInt64), x.2.2.1, updB (updB x.2.2.2 0 (f_X6_endHour_o6 (x.1 0) (x.2.1 4) (x.1 35) (x.1 36) (x.2.1 5) (x.2.1 6) (x.2.1 7) (x.1 37) (x.2.1 8) (x.2.1 9) (x.2.1 10) (x.1 39) (x.1 40) (x.2.2.2 0))) 1 (x.2.2.2 1)) : XS) = y := by
        rw [hy]
        refine Prod.ext (funext fun j => ?_) (Prod.ext (funext fun j => ?_) (Prod.ext rfl (funext fun j => ?_)))
        · show upd (upd (upd (upd (upd (upd (upd (upd x.1 35 _) 36 _) 37 _) 38 _) 39 _) 40 _) 41 _) 42 _ j = upd (upd (upd (upd (upd (upd x.1 39 _) 40 _) 38 _) 35 _) 36 _) 37 _ j
          by_cases c35 : j = 35
          · subst c35
            rw [upd_ne _ _ (show ¬ 35 = 42 by decide), upd_ne _ _ (show ¬ 35 = 41 by decide), upd_ne _ _ (show ¬ 35 = 40 by decide), upd_ne _ _ (show ¬ 35 = 39 by decide), upd_ne _ _ (show ¬ 35 = 38 by decide), upd_ne _ _ (show ¬ 35 = 37 by decide), upd_ne _ _ (show ¬ 35 = 36 by decide), upd_at, upd_ne _ _ (show ¬ 35 = 37 by decide), upd_ne _ _ (show ¬ 35 = 36 by decide), upd_at]
          by_cases c36 : j = 36
          · subst c36
            rw [upd_ne _ _ (show ¬ 36 = 42 by decide), upd_ne _ _ (show ¬ 36 = 41 by decide), upd_ne _ _ (show ¬ 36 = 40 by decide), upd_ne _ _ (show ¬ 36 = 39 by decide), upd_ne _ _ (show ¬ 36 = 38 by decide), upd_ne _ _ (show ¬ 36 = 37 by decide), upd_at, upd_ne _ _ (show ¬ 36 = 37 by decide), upd_at]
          by_cases c37 : j = 37
          · subst c37
            rw [upd_ne _ _ (show ¬ 37 = 42 by decide), upd_ne _ _ (show ¬ 37 = 41 by decide), upd_ne _ _ (show ¬ 37 = 40 by decide), upd_ne _ _ (show ¬ 37 = 39 by decide), upd_ne _ _ (show ¬ 37 = 38 by decide), upd_at, upd_at]
          by_cases c38 : j = 38
          · subst c38
            rw [upd_ne _ _ (show ¬ 38 = 42 by decide), upd_ne _ _ (show ¬ 38 = 41 by decide), upd_ne _ _ (show ¬ 38 = 40 by decide), upd_ne _ _ (show ¬ 38 = 39 by decide), upd_at, upd_ne _ _ (show ¬ 38 = 37 by decide), upd_ne _ _ (show ¬ 38 = 36 by decide), upd_ne _ _ (show ¬ 38 = 35 by decide), upd_at]
          by_cases c39 : j = 39
          · subst c39
            rw [upd_ne _ _ (show ¬ 39 = 42 by decide), upd_ne _ _ (show ¬ 39 = 41 by decide), upd_ne _ _ (show ¬ 39 = 40 by decide), upd_at, upd_ne _ _ (show ¬ 39 = 37 by decide), upd_ne _ _ (show ¬ 39 = 36 by decide), upd_ne _ _ (show ¬ 39 = 35 by decide), upd_ne _ _ (show ¬ 39 = 38 by decide), upd_ne _ _ (show ¬ 39 = 40 by decide), upd_at]
          by_cases c40 : j = 40
          · subst c40
            rw [upd_ne _ _ (show ¬ 40 = 42 by decide), upd_ne _ _ (show ¬ 40 = 41 by decide), upd_at, upd_ne _ _ (show ¬ 40 = 37 by decide), upd_ne _ _ (show ¬ 40 = 36 by decide), upd_ne _ _ (show ¬ 40 = 35 by decide), upd_ne _ _ (show ¬ 40 = 38 by decide), upd_at]
          by_cases c41 : j = 41
          · subst c41
            rw [upd_ne _ _ (show ¬ 41 = 42 by decide), upd_at, upd_ne _ _ (show ¬ 41 = 37 by decide), upd_ne _ _ (show ¬ 41 = 36 by decide), upd_ne _ _ (show ¬ 41 = 35 by decide), upd_ne _ _ (show ¬ 41 = 38 by decide), upd_ne _ _ (show ¬ 41 = 40 by decide), upd_ne _ _ (show ¬ 41 = 39 by decide)]
          by_cases c42 : j = 42
          · subst c42
            rw [upd_at, upd_ne _ _ (show ¬ 42 = 37 by decide), upd_ne _ _ (show ¬ 42 = 36 by decide), upd_ne _ _ (show ¬ 42 = 35 by decide), upd_ne _ _ (show ¬ 42 = 38 by decide), upd_ne _ _ (show ¬ 42 = 40 by decide), upd_ne _ _ (show ¬ 42 = 39 by decide)]
          rw [upd_ne _ _ c42, upd_ne _ _ c41, upd_ne _ _ c40, upd_ne _ _ c39, upd_ne _ _ c38, upd_ne _ _ c37, upd_ne _ _ c36, upd_ne _ _ c35, upd_ne _ _ c37, upd_ne _ _ c36, upd_ne _ _ c35, upd_ne _ _ c38, upd_ne _ _ c40, upd_ne _ _ c39]
        · show vp_updL (vp_updL (vp_updL (vp_updL (vp_updL (vp_updL (vp_updL (vp_updL (vp_updL x.2.1 4 _) 5 _) 6 _) 7 _) 8 _) 9 _) 10 _) 11 _) 12 _ j = vp_updL (vp_updL (vp_updL (vp_updL (vp_updL (vp_updL (vp_updL (vp_updL (vp_updL x.2.1 11 _) 12 _) 4 _) 5 _) 6 _) 7 _) 8 _) 9 _) 10 _ j
          by_cases c4 : j = 4
          · subst c4
            rw [vpu_ne _ _ (show ¬ 4 = 12 by decide), vpu_ne _ _ (show ¬ 4 = 11 by decide), vpu_ne _ _ (show ¬ 4 = 10 by decide), vpu_ne _ _ (show ¬ 4 = 9 by decide), vpu_ne _ _ (show ¬ 4 = 8 by decide), vpu_ne _ _ (show ¬ 4 = 7 by decide), vpu_ne _ _ (show ¬ 4 = 6 by decide), vpu_ne _ _ (show ¬ 4 = 5 by decide), vpu_at, vpu_ne _ _ (show ¬ 4 = 10 by decide), vpu_ne _ _ (show ¬ 4 = 9 by decide), vpu_ne _ _ (show ¬ 4 = 8 by decide), vpu_ne _ _ (show ¬ 4 = 7 by decide), vpu_ne _ _ (show ¬ 4 = 6 by decide), vpu_ne _ _ (show ¬ 4 = 5 by decide), vpu_at]
          by_cases c5 : j = 5
          · subst c5
            rw [vpu_ne _ _ (show ¬ 5 = 12 by decide), vpu_ne _ _ (show ¬ 5 = 11 by decide), vpu_ne _ _ (show ¬ 5 = 10 by decide), vpu_ne _ _ (show ¬ 5 = 9 by decide), vpu_ne _ _ (show ¬ 5 = 8 by decide), vpu_ne _ _ (show ¬ 5 = 7 by decide), vpu_ne _ _ (show ¬ 5 = 6 by decide), vpu_at, vpu_ne _ _ (show ¬ 5 = 10 by decide), vpu_ne _ _ (show ¬ 5 = 9 by decide), vpu_ne _ _ (show ¬ 5 = 8 by decide), vpu_ne _ _ (show ¬ 5 = 7 by decide), vpu_ne _ _ (show ¬ 5 = 6 by decide), vpu_at]
          by_cases c6 : j = 6
          · subst c6
            rw [vpu_ne _ _ (show ¬ 6 = 12 by decide), vpu_ne _ _ (show ¬ 6 = 11 by decide), vpu_ne _ _ (show ¬ 6 = 10 by decide), vpu_ne _ _ (show ¬ 6 = 9 by decide), vpu_ne _ _ (show ¬ 6 = 8 by decide), vpu_ne _ _ (show ¬ 6 = 7 by decide), vpu_at, vpu_ne _ _ (show ¬ 6 = 10 by decide), vpu_ne _ _ (show ¬ 6 = 9 by decide), vpu_ne _ _ (show ¬ 6 = 8 by decide), vpu_ne _ _ (show ¬ 6 = 7 by decide), vpu_at]
          by_cases c7 : j = 7
          · subst c7
            rw [vpu_ne _ _ (show ¬ 7 = 12 by decide), vpu_ne _ _ (show ¬ 7 = 11 by decide), vpu_ne _ _ (show ¬ 7 = 10 by decide), vpu_ne _ _ (show ¬ 7 = 9 by decide), vpu_ne _ _ (show ¬ 7 = 8 by decide), vpu_at, vpu_ne _ _ (show ¬ 7 = 10 by decide), vpu_ne _ _ (show ¬ 7 = 9 by decide), vpu_ne _ _ (show ¬ 7 = 8 by decide), vpu_at]
          by_cases c8 : j = 8
          · subst c8
            rw [vpu_ne _ _ (show ¬ 8 = 12 by decide), vpu_ne _ _ (show ¬ 8 = 11 by decide), vpu_ne _ _ (show ¬ 8 = 10 by decide), vpu_ne _ _ (show ¬ 8 = 9 by decide), vpu_at, vpu_ne _ _ (show ¬ 8 = 10 by decide), vpu_ne _ _ (show ¬ 8 = 9 by decide), vpu_at]
          by_cases c9 : j = 9
          · subst c9
            rw [vpu_ne _ _ (show ¬ 9 = 12 by decide), vpu_ne _ _ (show ¬ 9 = 11 by decide), vpu_ne _ _ (show ¬ 9 = 10 by decide), vpu_at, vpu_ne _ _ (show ¬ 9 = 10 by decide), vpu_at]
          by_cases c10 : j = 10
          · subst c10
            rw [vpu_ne _ _ (show ¬ 10 = 12 by decide), vpu_ne _ _ (show ¬ 10 = 11 by decide), vpu_at, vpu_at]
          by_cases c11 : j = 11
          · subst c11
            rw [vpu_ne _ _ (show ¬ 11 = 12 by decide), vpu_at, vpu_ne _ _ (show ¬ 11 = 10 by decide), vpu_ne _ _ (show ¬ 11 = 9 by decide), vpu_ne _ _ (show ¬ 11 = 8 by decide), vpu_ne _ _ (show ¬ 11 = 7 by decide), vpu_ne _ _ (show ¬ 11 = 6 by decide), vpu_ne _ _ (show ¬ 11 = 5 by decide), vpu_ne _ _ (show ¬ 11 = 4 by decide), vpu_ne _ _ (show ¬ 11 = 12 by decide), vpu_at]
          by_cases c12 : j = 12
          · subst c12
            rw [vpu_at, vpu_ne _ _ (show ¬ 12 = 10 by decide), vpu_ne _ _ (show ¬ 12 = 9 by decide), vpu_ne _ _ (show ¬ 12 = 8 by decide), vpu_ne _ _ (show ¬ 12 = 7 by decide), vpu_ne _ _ (show ¬ 12 = 6 by decide), vpu_ne _ _ (show ¬ 12 = 5 by decide), vpu_ne _ _ (show ¬ 12 = 4 by decide), vpu_at]
          rw [vpu_ne _ _ c12, vpu_ne _ _ c11, vpu_ne _ _ c10, vpu_ne _ _ c9, vpu_ne _ _ c8, vpu_ne _ _ c7, vpu_ne _ _ c6, vpu_ne _ _ c5, vpu_ne _ _ c4, vpu_ne _ _ c10, vpu_ne _ _ c9, vpu_ne _ _ c8, vpu_ne _ _ c7, vpu_ne _ _ c6, vpu_ne _ _ c5, vpu_ne _ _ c4, vpu_ne _ _ c12, vpu_ne _ _ c11]
        · show updB (updB x.2.2.2 0 _) 1 (x.2.2.2 1) j = updB x.2.2.2 0 _ j
          by_cases c1 : j = 1
          · subst c1; rw [ub_at, ub_ne _ _ (show ¬ 1 = 0 by decide)]
          rw [ub_ne _ _ c1]
      rw [eq]; exact r
  · rw [if_neg e, if_neg (fun z => e ((pz_hourEnd b0.1).mp z))]
    exact RX_mono h (by omega)
