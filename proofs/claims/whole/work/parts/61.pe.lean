theorem rx_flt64 {v c : Int64} : v < c ↔ ¬ c ≤ v := by rw [Int64.lt_iff_toInt_lt, Int64.le_iff_toInt_le]; omega
/-- one end of the flow's stage -/
theorem rx_fin {T : Int} {x : XS} {S : Nat → Int64} (h : RX T x S) (f : Int32) (f64 : Int64) (hf : f64 = f.toInt64) (hf1 : f = 0 ∨ f = 1) (V d : Int64) (h0 : 0 ≤ V.toInt) (h1 : V.toInt ≤ 100000000) (hd : 0 ≤ d.toInt) :
    RX T (if d ≤ 0 then ((upd x.1 29 f, vp_updL (vp_updL x.2.1 0 V) 1 (x.2.1 1 + V), x.2.2.1, x.2.2.2) : XS) else (upd x.1 29 f, vp_updL (vp_updL (vp_updL x.2.1 0 V) 1 (x.2.1 1 + V)) 2 (x.2.1 2 + f_J9_floorDiv_f86c9_r (10000 * V) d), x.2.2.1, x.2.2.2))
      (if d = 0 then ((vp_updL (vp_updL (vp_updL (vp_updL S 41 f64) 40 V) 42 (((vp_updL (vp_updL S 41 f64) 40 V) 42) + ((vp_updL (vp_updL S 41 f64) 40 V) 40))) 43 (((vp_updL (vp_updL (vp_updL S 41 f64) 40 V) 42 (((vp_updL (vp_updL S 41 f64) 40 V) 42) + ((vp_updL (vp_updL S 41 f64) 40 V) 40))) 43) + 0)))
      else ((vp_updL (vp_updL (vp_updL (vp_updL S 41 f64) 40 V) 42 (((vp_updL (vp_updL S 41 f64) 40 V) 42) + ((vp_updL (vp_updL S 41 f64) 40 V) 40))) 43 (((vp_updL (vp_updL (vp_updL S 41 f64) 40 V) 42 (((vp_updL (vp_updL S 41 f64) 40 V) 42) + ((vp_updL (vp_updL S 41 f64) 40 V) 40))) 43) + ((10000 * ((vp_updL (vp_updL (vp_updL S 41 f64) 40 V) 42 (((vp_updL (vp_updL S 41 f64) 40 V) 42) + ((vp_updL (vp_updL S 41 f64) 40 V) 40))) 40)) / d))))) := by
  have r1 := RX_int h 29 (by decide) f f64 41 rfl hf (by rcases hf1 with z | z <;> rw [z] <;> decide) (by rcases hf1 with z | z <;> rw [z] <;> show _ ≤ (1 : Int) <;> decide)
  have r2 := RX_long r1 0 (by decide) V V 40 rfl rfl
  have h42 : vp_updL (vp_updL S 41 f64) 40 V 42 = x.2.1 1 := r2.2.1 1 (by decide)
  have h40 : vp_updL (vp_updL S 41 f64) 40 V 40 = V := vpu_at _ _ _
  have r3 := RX_long r2 1 (by decide) (x.2.1 1 + V) _ 42 rfl (show vp_updL (vp_updL S 41 f64) 40 V 42 + vp_updL (vp_updL S 41 f64) 40 V 40 = _ by rw [h42, h40])
  obtain ⟨Z, hZ⟩ : ∃ Z, Z = vp_updL (vp_updL (vp_updL S 41 f64) 40 V) 42 (vp_updL (vp_updL S 41 f64) 40 V 42 + vp_updL (vp_updL S 41 f64) 40 V 40) := ⟨_, rfl⟩
  rw [← hZ] at r3 ⊢
  have h43 : Z 43 = x.2.1 2 := r3.2.1 2 (by decide)
  have h40' : Z 40 = V := r3.2.1 0 (by decide)
  rw [h43, h40']
  by_cases c : d = 0
  · subst c
    rw [if_pos (by decide), if_pos rfl]
    have r4 := RX_long r3 2 (by decide) (x.2.1 2) (x.2.1 2 + 0) 43 rfl (Int64.add_zero _)
    have e : xL (xL (xL (xI x 29 f) 0 V) 1 (x.2.1 1 + V)) 2 (x.2.1 2) = (upd x.1 29 f, vp_updL (vp_updL x.2.1 0 V) 1 (x.2.1 1 + V), x.2.2.1, x.2.2.2) := by
      refine Prod.ext rfl (Prod.ext (funext fun j => ?_) rfl)
      show vp_updL (vp_updL (vp_updL x.2.1 0 V) 1 (x.2.1 1 + V)) 2 (x.2.1 2) j = vp_updL (vp_updL x.2.1 0 V) 1 (x.2.1 1 + V) j
      by_cases z : j = 2
      · subst z; rfl
      · rw [vpu_ne _ _ z]
    rw [← e]; exact r4
  · have hd1 : 0 < d.toInt := by
      have : d.toInt ≠ 0 := fun z => c (Int64.toInt_inj.mp (by rw [z]; rfl))
      omega
    have e4 : (10000 : Int64).toInt = 10000 := by decide
    have hm : (10000 * V).toInt = 10000 * V.toInt := by rw [Kit.i64_mul (by rw [e4]; omega) (by rw [e4]; omega), e4]
    rw [if_neg (show ¬ d ≤ 0 from fun z => by rw [Int64.le_iff_toInt_le] at z; have z' : d.toInt ≤ 0 := z; omega), if_neg c]
    exact RX_long r3 2 (by decide) (x.2.1 2 + f_J9_floorDiv_f86c9_r (10000 * V) d) _ 43 rfl (by rw [pz_div (by rw [hm]; omega) hd1])
/-- what a row's numbers give: density and flow -/
theorem rx_dens {T : Int} {x : XS} {S : Nat → Int64} (h : RX T x S) : f_X10_densityAt_r S (S 20) (S 21) = f_X6_presentDensity_r (x.1 18) (x.1 23) (x.1 25) (x.2.2.1 0)
    ∧ 0 ≤ (f_X6_presentDensity_r (x.1 18) (x.1 23) (x.1 25) (x.2.2.1 0)).toInt ∧ (f_X6_presentDensity_r (x.1 18) (x.1 23) (x.1 25) (x.2.2.1 0)).toInt ≤ 11000000 := by
  have h20 : S 20 = (x.1 18).toInt64 := h.1 18 (by decide)
  have h21 : S 21 = (x.1 23).toInt64 := h.1 23 (by decide)
  have b18 : -634 ≤ (x.1 18).toInt ∧ (x.1 18).toInt ≤ 30000 := h.2.2.1 18 (by decide)
  have b23 : -1134 ≤ (x.1 23).toInt ∧ (x.1 23).toInt ≤ 29500 := h.2.2.1 23 (by decide)
  have b25 : 0 ≤ (x.1 25).toInt ∧ (x.1 25).toInt ≤ 1 := h.2.2.1 25 (by decide)
  have hd := pz_dens (x.1 25) (x.2.2.1 0) S (x.1 18) (x.1 23) (b01 b25.1 b25.2) (h.1 25 (by decide)) h.2.2.2.1.1 h.2.2.2.1.2.1 (by omega) (by omega) (by omega) (by omega)
  rw [h20, h21]
  exact ⟨hd.1.symm, hd.2⟩
theorem rx_flowOf {T : Int} {x : XS} {S : Nat → Int64} (h : RX T x S) (a b c : Int32) (ha0 : 0 ≤ a.toInt) (ha1 : a.toInt ≤ 30000) (hb0 : -10000 ≤ b.toInt) (hb1 : b.toInt ≤ 30000) (hc0 : -1134 ≤ c.toInt) (hc1 : c.toInt ≤ 30000) :
    f_X3_flowAt_r (x.1 25) (x.1 26) (x.2.2.1 1) a b (f_X3_densityAt_r (x.1 25) (x.2.2.1 0) b c) = f_X10_flowBy_r S a.toInt64 b.toInt64 c.toInt64
    ∧ 0 ≤ (f_X3_flowAt_r (x.1 25) (x.1 26) (x.2.2.1 1) a b (f_X3_densityAt_r (x.1 25) (x.2.2.1 0) b c)).toInt ∧ (f_X3_flowAt_r (x.1 25) (x.1 26) (x.2.2.1 1) a b (f_X3_densityAt_r (x.1 25) (x.2.2.1 0) b c)).toInt ≤ 100000000 := by
  have b25 : 0 ≤ (x.1 25).toInt ∧ (x.1 25).toInt ≤ 1 := h.2.2.1 25 (by decide)
  have b26 : 1 ≤ (x.1 26).toInt ∧ (x.1 26).toInt ≤ 100000 := h.2.2.1 26 (by decide)
  exact pz_flow (x.1 25) (x.1 26) (x.2.2.1 0) (x.2.2.1 1) S a b c (b01 b25.1 b25.2) (h.1 25 (by decide)) (h.1 26 (by decide)) h.2.2.2.1.1 h.2.2.2.1.2.1 h.2.2.2.1.2.2.1 h.2.2.2.1.2.2.2 (by omega) b26.2 ha0 ha1 hb0 hb1 hc0 hc1
theorem rx_flow {T : Int} {x : XS} {S : Nat → Int64} (h : RX T x S) : RX T (st_flow x) (f_X10_flows_o1 S) := by
  have h39 : S 39 = (x.1 4).toInt64 := h.1 4 (by decide)
  have h20 : S 20 = (x.1 18).toInt64 := h.1 18 (by decide)
  have h21 : S 21 = (x.1 23).toInt64 := h.1 23 (by decide)
  have h41 : S 41 = (x.1 29).toInt64 := h.1 29 (by decide)
  have h3 : S 3 = (x.1 27).toInt64 := h.1 27 (by decide)
  have h4 : S 4 = (x.1 28).toInt64 := h.1 28 (by decide)
  have b18 : -634 ≤ (x.1 18).toInt ∧ (x.1 18).toInt ≤ 30000 := h.2.2.1 18 (by decide)
  have b23 : -1134 ≤ (x.1 23).toInt ∧ (x.1 23).toInt ≤ 29500 := h.2.2.1 23 (by decide)
  have b4 : 0 ≤ (x.1 4).toInt ∧ (x.1 4).toInt ≤ 30000 := h.2.2.1 4 (by decide)
  have b29 : 0 ≤ (x.1 29).toInt ∧ (x.1 29).toInt ≤ 1 := h.2.2.1 29 (by decide)
  obtain ⟨d1, d2, d3⟩ := rx_dens h
  obtain ⟨q1, q2, q3⟩ := rx_flowOf h (x.1 4) (x.1 18) (x.1 23) b4.1 b4.2 (by omega) b18.2 b23.1 (by omega)
  have q1' : f_X10_flowBy_r S (S 39) (S 20) (S 21) = f_X3_flowAt_r (x.1 25) (x.1 26) (x.2.2.1 1) (x.1 4) (x.1 18) (f_X6_presentDensity_r (x.1 18) (x.1 23) (x.1 25) (x.2.2.1 0)) := by rw [h39, h20, h21]; exact q1.symm
  have q4 : 0 ≤ (f_X3_flowAt_r (x.1 25) (x.1 26) (x.2.2.1 1) (x.1 4) (x.1 18) (f_X6_presentDensity_r (x.1 18) (x.1 23) (x.1 25) (x.2.2.1 0))).toInt ∧ (f_X3_flowAt_r (x.1 25) (x.1 26) (x.2.2.1 1) (x.1 4) (x.1 18) (f_X6_presentDensity_r (x.1 18) (x.1 23) (x.1 25) (x.2.2.1 0))).toInt ≤ 100000000 := ⟨q2, q3⟩
  unfold f_X10_flows_o1 st_flow
  rw [d1, q1', h41, h3, h4]
  obtain ⟨d, hd⟩ : ∃ z, z = f_X6_presentDensity_r (x.1 18) (x.1 23) (x.1 25) (x.2.2.1 0) := ⟨_, rfl⟩
  rw [← hd] at q4 d2 ⊢
  obtain ⟨V, hV⟩ : ∃ z, z = f_X3_flowAt_r (x.1 25) (x.1 26) (x.2.2.1 1) (x.1 4) (x.1 18) d := ⟨_, rfl⟩
  rw [← hV] at q4 ⊢
  have a41 : ∀ v : Int64, vp_updL S 41 v 41 = v := fun v => vpu_at _ _ _
  have yes := rx_fin h 1 1 rfl (Or.inr rfl) V d q4.1 q4.2 d2
  have no := rx_fin h 0 0 rfl (Or.inl rfl) 0 d (by decide) (by decide) d2
  unfold f_X1_passed_o0_2 f_X1_passed_r
  rcases b01 b29.1 b29.2 with e | e
  · have n41 : ¬ (x.1 29).toInt64 = 1 := by rw [e]; decide
    rw [if_neg n41, if_pos e, if_pos e]
    by_cases c : V < (x.1 28).toInt64
    · simp only [if_pos c, a41, m01', if_false]; exact no
    · simp only [if_neg c, a41, if_true]; exact yes
  · have y41 : (x.1 29).toInt64 = 1 := by rw [e]; rfl
    have n29 : ¬ x.1 29 = 0 := by rw [e]; decide
    rw [if_pos y41, if_neg n29, if_neg n29]
    by_cases c : V < (x.1 27).toInt64
    · have c' : ¬ (x.1 27).toInt64 ≤ V := rx_flt64.mp c
      simp only [if_pos c, if_neg c', a41, m01', if_false]; exact no
    · have c' : (x.1 27).toInt64 ≤ V := by
        rw [Int64.le_iff_toInt_le]; rw [Int64.lt_iff_toInt_lt] at c; omega
      simp only [if_neg c, if_pos c', a41, if_true]; exact yes
theorem rx_fill {T : Int} {x : XS} {S : Nat → Int64} (h : RX T x S) : RX T (st_fill x) (g_X10_loads_0 S) := by
  have h45 : S 45 = (x.1 31).toInt64 := h.1 31 (by decide)
  have h44 : S 44 = x.2.1 3 := h.2.1 3 (by decide)
  have h40 : S 40 = x.2.1 0 := h.2.1 0 (by decide)
  have h46 : S 46 = (x.1 32).toInt64 := h.1 32 (by decide)
  have h47 : S 47 = (x.1 33).toInt64 := h.1 33 (by decide)
  have b31 : 0 ≤ (x.1 31).toInt ∧ (x.1 31).toInt ≤ 1 := h.2.2.1 31 (by decide)
  unfold g_X10_loads_0
  rw [h45]
  rcases b01 b31.1 b31.2 with e | e
  · rw [if_pos (by rw [e]; rfl)]
    have eq : st_fill x = x := by
      unfold st_fill f_X6_fillBatch_o1_1 f_X6_fillBatch_o1_5 f_X6_fillBatch_o2_3 f_X6_fillBatch_o2_4 f_X6_fillBatch_o1_4 f_X6_fillBatch_o3
      rw [if_pos e, if_pos e, if_pos e, if_pos e, if_pos e, if_pos e, upd_self, upd_self]
      have : vp_updL x.2.1 3 (x.2.1 3) = x.2.1 := by
        funext j; unfold vp_updL; split
        · rename_i z; rw [z]
        · rfl
      rw [this]
      exact xG_none x.1 x.2
    rw [eq]; exact h
  · have n31 : ¬ x.1 31 = 0 := by rw [e]; decide
    rw [if_neg (show ¬ (x.1 31).toInt64 = 0 by rw [e]; decide), h44, h40]
    have r1 := RX_long h 3 (by decide) (x.2.1 3 + x.2.1 0) (x.2.1 3 + x.2.1 0) 44 rfl rfl
    obtain ⟨m, hm⟩ : ∃ z, z = x.2.1 3 + x.2.1 0 := ⟨_, rfl⟩
    rw [← hm] at r1 ⊢
    have z44 : vp_updL S 44 m 44 = m := vpu_at _ _ _
    have z46 : vp_updL S 44 m 46 = (x.1 32).toInt64 := h46
    have z47 : vp_updL S 44 m 47 = (x.1 33).toInt64 := h47
    have y44 : vp_updL (vp_updL (vp_updL S 44 m) 45 0) 49 0 44 = m := vpu_at S 44 m
    have y46 : vp_updL (vp_updL (vp_updL S 44 m) 45 0) 49 0 46 = (x.1 32).toInt64 := h46
    rw [z44, z46, z47, y44, y46]
    unfold st_fill f_X6_fillBatch_o1_1 f_X6_fillBatch_o1_5 f_X6_fillBatch_o2_3 f_X6_fillBatch_o2_4 f_X6_fillBatch_o1_4 f_X6_fillBatch_o3
    rw [if_neg n31, if_neg n31, if_neg n31, if_neg n31, if_neg n31, if_neg n31]
    unfold f_X0_fill_o0_1 f_X0_fill_o0_4 f_X0_fill_o0_5 f_X0_setValve_o0_5
    rw [← hm]
    by_cases c : m < (x.1 32).toInt64
    · simp only [if_pos c, if_neg n31]
      by_cases g : (x.1 33).toInt64 < (x.1 32).toInt64 - m
      · simp only [if_pos g]
        have r2 := RX_int r1 34 (by decide) 2 2 49 rfl rfl (by decide) (by show _ ≤ (2 : Int); decide)
        have eq : ((upd (upd (upd (upd x.1 31 (x.1 31)) 34 2) 43 (x.1 43)) 44 (x.1 44), vp_updL x.2.1 3 m, x.2.2.1, updB x.2.2.2 2 (x.2.2.2 2)) : XS) = xI (xL x 3 m) 34 2 := by
          rw [upd_self]
          exact xG_none (upd x.1 34 2) (vp_updL x.2.1 3 m, x.2.2)
        rw [eq]; exact r2
      · simp only [if_neg g]
        have r2 := RX_int r1 34 (by decide) 1 1 49 rfl rfl (by decide) (by show _ ≤ (2 : Int); decide)
        have eq : ((upd (upd (upd (upd x.1 31 (x.1 31)) 34 1) 43 (x.1 43)) 44 (x.1 44), vp_updL x.2.1 3 m, x.2.2.1, updB x.2.2.2 2 (x.2.2.2 2)) : XS) = xI (xL x 3 m) 34 1 := by
          rw [upd_self]
          exact xG_none (upd x.1 34 1) (vp_updL x.2.1 3 m, x.2.2)
        rw [eq]; exact r2
    · simp only [if_neg c, if_true]
      have r2 := RX_int r1 31 (by decide) 0 0 45 rfl rfl (by decide) (by show _ ≤ (1 : Int); decide)
      have r3 := RX_int r2 34 (by decide) 0 0 49 rfl rfl (by decide) (by show _ ≤ (2 : Int); decide)
      exact RX_log r3 4 (m - (x.1 32).toInt64)
theorem pz_or (a b : Int32) : (a ||| b).toInt64 = a.toInt64 ||| b.toInt64 := by simp
theorem m_le0 {v : Int32} : v.toInt64 ≤ 0 ↔ v ≤ 0 := by rw [show (0 : Int64) = (0 : Int32).toInt64 from rfl, pz_le]
theorem updL_2 (f : Nat → Int64) (k : Nat) (a b : Int64) : vp_updL (vp_updL f k a) k b = vp_updL f k b := by
  funext j; unfold vp_updL; split <;> rfl
/-- the alarms, bit by bit -/
theorem pz_alarms (hd tr ur vr wr : Int32) : (f_X6_presentAlarms_r hd tr ur vr wr).toInt64 = (((((if f_X8_isFaulty_r tr = 0 then 0 else 1) ||| (if f_X8_isFaulty_r ur = 0 then 0 else 2)) ||| (if f_X8_isFaulty_r vr = 0 then 0 else 4)) ||| (if f_X8_isFaulty_r wr = 0 then 0 else 8)) ||| (if hd ≤ 0 then 0 else 16) : Int64)
    ∧ ∀ u : Int32, 0 ≤ u.toInt → u.toInt ≤ 31 → 0 ≤ (u ||| f_X6_presentAlarms_r hd tr ur vr wr).toInt ∧ (u ||| f_X6_presentAlarms_r hd tr ur vr wr).toInt ≤ 31 := by
  have dec : ∀ n, n < 32 → ∀ m, m < 32 → 0 ≤ (Int32.ofNat n ||| Int32.ofNat m).toInt ∧ (Int32.ofNat n ||| Int32.ofNat m).toInt ≤ 31 := by decide +kernel
  have ou : ∀ u : Int32, 0 ≤ u.toInt → u.toInt ≤ 31 → ∃ n, n < 32 ∧ u = Int32.ofNat n := fun u h0 h1 => ⟨u.toInt.toNat, by omega, by
    apply Int32.toInt_inj.mp
    rw [Int32.toInt_ofNat_of_lt (by omega)]; omega⟩
  have fin : ∀ (v : Int32) (m : Nat), m < 32 → v = Int32.ofNat m → ∀ u : Int32, 0 ≤ u.toInt → u.toInt ≤ 31 → 0 ≤ (u ||| v).toInt ∧ (u ||| v).toInt ≤ 31 := by
    intro v m hm hv u h0 h1
    obtain ⟨n, hn, hu⟩ := ou u h0 h1
    rw [hu, hv]; exact dec n hn m hm
  unfold f_X6_presentAlarms_r
  by_cases c0 : hd ≤ 0
  · skip
    by_cases c1 : f_X8_isFaulty_r tr = 0
    · skip
      by_cases c2 : f_X8_isFaulty_r ur = 0
      · skip
        by_cases c3 : f_X8_isFaulty_r vr = 0
        · skip
          by_cases c4 : f_X8_isFaulty_r wr = 0
          · skip
            simp only [if_pos c0, if_pos c1, if_pos c2, if_pos c3, if_pos c4]
            exact ⟨rfl, fin _ 0 (by decide) (by decide)⟩
          · skip
            simp only [if_pos c0, if_pos c1, if_pos c2, if_pos c3, if_neg c4]
            exact ⟨rfl, fin _ 8 (by decide) (by decide)⟩
        · skip
          by_cases c4 : f_X8_isFaulty_r wr = 0
          · skip
            simp only [if_pos c0, if_pos c1, if_pos c2, if_neg c3, if_pos c4]
            exact ⟨rfl, fin _ 4 (by decide) (by decide)⟩
          · skip
            simp only [if_pos c0, if_pos c1, if_pos c2, if_neg c3, if_neg c4]
            exact ⟨rfl, fin _ 12 (by decide) (by decide)⟩
      · skip
        by_cases c3 : f_X8_isFaulty_r vr = 0
        · skip
          by_cases c4 : f_X8_isFaulty_r wr = 0
          · skip
            simp only [if_pos c0, if_pos c1, if_neg c2, if_pos c3, if_pos c4]
            exact ⟨rfl, fin _ 2 (by decide) (by decide)⟩
          · skip
            simp only [if_pos c0, if_pos c1, if_neg c2, if_pos c3, if_neg c4]
            exact ⟨rfl, fin _ 10 (by decide) (by decide)⟩
        · skip
          by_cases c4 : f_X8_isFaulty_r wr = 0
          · skip
            simp only [if_pos c0, if_pos c1, if_neg c2, if_neg c3, if_pos c4]
            exact ⟨rfl, fin _ 6 (by decide) (by decide)⟩
          · skip
            simp only [if_pos c0, if_pos c1, if_neg c2, if_neg c3, if_neg c4]
            exact ⟨rfl, fin _ 14 (by decide) (by decide)⟩
    · skip
      by_cases c2 : f_X8_isFaulty_r ur = 0
      · skip
        by_cases c3 : f_X8_isFaulty_r vr = 0
        · skip
          by_cases c4 : f_X8_isFaulty_r wr = 0
          · skip
            simp only [if_pos c0, if_neg c1, if_pos c2, if_pos c3, if_pos c4]
            exact ⟨rfl, fin _ 1 (by decide) (by decide)⟩
          · skip
            simp only [if_pos c0, if_neg c1, if_pos c2, if_pos c3, if_neg c4]
            exact ⟨rfl, fin _ 9 (by decide) (by decide)⟩
        · skip
          by_cases c4 : f_X8_isFaulty_r wr = 0
          · skip
            simp only [if_pos c0, if_neg c1, if_pos c2, if_neg c3, if_pos c4]
            exact ⟨rfl, fin _ 5 (by decide) (by decide)⟩
          · skip
            simp only [if_pos c0, if_neg c1, if_pos c2, if_neg c3, if_neg c4]
            exact ⟨rfl, fin _ 13 (by decide) (by decide)⟩
      · skip
        by_cases c3 : f_X8_isFaulty_r vr = 0
        · skip
          by_cases c4 : f_X8_isFaulty_r wr = 0
          · skip
            simp only [if_pos c0, if_neg c1, if_neg c2, if_pos c3, if_pos c4]
            exact ⟨rfl, fin _ 3 (by decide) (by decide)⟩
          · skip
            simp only [if_pos c0, if_neg c1, if_neg c2, if_pos c3, if_neg c4]
            exact ⟨rfl, fin _ 11 (by decide) (by decide)⟩
        · skip
          by_cases c4 : f_X8_isFaulty_r wr = 0
          · skip
            simp only [if_pos c0, if_neg c1, if_neg c2, if_neg c3, if_pos c4]
            exact ⟨rfl, fin _ 7 (by decide) (by decide)⟩
          · skip
            simp only [if_pos c0, if_neg c1, if_neg c2, if_neg c3, if_neg c4]
            exact ⟨rfl, fin _ 15 (by decide) (by decide)⟩
  · skip
    by_cases c1 : f_X8_isFaulty_r tr = 0
    · skip
      by_cases c2 : f_X8_isFaulty_r ur = 0
      · skip
        by_cases c3 : f_X8_isFaulty_r vr = 0
        · skip
          by_cases c4 : f_X8_isFaulty_r wr = 0
          · skip
            simp only [if_neg c0, if_pos c1, if_pos c2, if_pos c3, if_pos c4]
            exact ⟨rfl, fin _ 16 (by decide) (by decide)⟩
          · skip
            simp only [if_neg c0, if_pos c1, if_pos c2, if_pos c3, if_neg c4]
            exact ⟨rfl, fin _ 24 (by decide) (by decide)⟩
        · skip
          by_cases c4 : f_X8_isFaulty_r wr = 0
          · skip
            simp only [if_neg c0, if_pos c1, if_pos c2, if_neg c3, if_pos c4]
            exact ⟨rfl, fin _ 20 (by decide) (by decide)⟩
          · skip
            simp only [if_neg c0, if_pos c1, if_pos c2, if_neg c3, if_neg c4]
            exact ⟨rfl, fin _ 28 (by decide) (by decide)⟩
      · skip
        by_cases c3 : f_X8_isFaulty_r vr = 0
        · skip
          by_cases c4 : f_X8_isFaulty_r wr = 0
          · skip
            simp only [if_neg c0, if_pos c1, if_neg c2, if_pos c3, if_pos c4]
            exact ⟨rfl, fin _ 18 (by decide) (by decide)⟩
          · skip
            simp only [if_neg c0, if_pos c1, if_neg c2, if_pos c3, if_neg c4]
            exact ⟨rfl, fin _ 26 (by decide) (by decide)⟩
        · skip
          by_cases c4 : f_X8_isFaulty_r wr = 0
          · skip
            simp only [if_neg c0, if_pos c1, if_neg c2, if_neg c3, if_pos c4]
            exact ⟨rfl, fin _ 22 (by decide) (by decide)⟩
          · skip
            simp only [if_neg c0, if_pos c1, if_neg c2, if_neg c3, if_neg c4]
            exact ⟨rfl, fin _ 30 (by decide) (by decide)⟩
    · skip
      by_cases c2 : f_X8_isFaulty_r ur = 0
      · skip
        by_cases c3 : f_X8_isFaulty_r vr = 0
        · skip
          by_cases c4 : f_X8_isFaulty_r wr = 0
          · skip
            simp only [if_neg c0, if_neg c1, if_pos c2, if_pos c3, if_pos c4]
            exact ⟨rfl, fin _ 17 (by decide) (by decide)⟩
          · skip
            simp only [if_neg c0, if_neg c1, if_pos c2, if_pos c3, if_neg c4]
            exact ⟨rfl, fin _ 25 (by decide) (by decide)⟩
        · skip
          by_cases c4 : f_X8_isFaulty_r wr = 0
          · skip
            simp only [if_neg c0, if_neg c1, if_pos c2, if_neg c3, if_pos c4]
            exact ⟨rfl, fin _ 21 (by decide) (by decide)⟩
          · skip
            simp only [if_neg c0, if_neg c1, if_pos c2, if_neg c3, if_neg c4]
            exact ⟨rfl, fin _ 29 (by decide) (by decide)⟩
      · skip
        by_cases c3 : f_X8_isFaulty_r vr = 0
        · skip
          by_cases c4 : f_X8_isFaulty_r wr = 0
          · skip
            simp only [if_neg c0, if_neg c1, if_neg c2, if_pos c3, if_pos c4]
            exact ⟨rfl, fin _ 19 (by decide) (by decide)⟩
          · skip
            simp only [if_neg c0, if_neg c1, if_neg c2, if_pos c3, if_neg c4]
            exact ⟨rfl, fin _ 27 (by decide) (by decide)⟩
        · skip
          by_cases c4 : f_X8_isFaulty_r wr = 0
          · skip
            simp only [if_neg c0, if_neg c1, if_neg c2, if_neg c3, if_pos c4]
            exact ⟨rfl, fin _ 23 (by decide) (by decide)⟩
          · skip
            simp only [if_neg c0, if_neg c1, if_neg c2, if_neg c3, if_neg c4]
            exact ⟨rfl, fin _ 31 (by decide) (by decide)⟩
theorem rx_sum0 {T : Int} {y : XS} {P : Nat → Int64} (h : RX T y P) : RX T (xL (xL y 8 (y.2.1 8 + (y.1 4).toInt64)) 5 (if y.1 29 = 0 then y.2.1 5 else y.2.1 5 + (y.1 4).toInt64)) (g_X10_counts_6 P) := by
  have b29 : 0 ≤ (y.1 29).toInt ∧ (y.1 29).toInt ≤ 1 := h.2.2.1 29 (by decide)
  have ta : P 56 = y.2.1 8 := h.2.1 8 (by decide)
  have tb : P 39 = (y.1 4).toInt64 := h.1 4 (by decide)
  have u := RX_long h 8 (by decide) (y.2.1 8 + (y.1 4).toInt64) (P 56 + (y.1 4).toInt64) 56 rfl (by rw [ta])
  have tc : vp_updL P 56 (P 56 + (y.1 4).toInt64) 53 = y.2.1 5 := u.2.1 5 (by decide)
  have td : vp_updL P 56 (P 56 + (y.1 4).toInt64) 41 = (y.1 29).toInt64 := u.1 29 (by decide)
  unfold g_X10_counts_6
  rw [tb, tc, td]
  rcases b01 b29.1 b29.2 with e | e
  · rw [if_neg (show ¬ (y.1 29).toInt64 = 1 by rw [e]; decide), if_pos e]
    exact RX_long u 5 (by decide) _ _ 53 rfl (Int64.add_zero _)
  · rw [if_pos (show (y.1 29).toInt64 = 1 by rw [e]; rfl), if_neg (by rw [e]; decide)]
    exact RX_long u 5 (by decide) _ _ 53 rfl rfl
theorem rx_sum1 {T : Int} {y : XS} {P : Nat → Int64} (h : RX T y P) : RX T (xL (xL y 9 (y.2.1 9 + (y.1 18).toInt64)) 6 (if y.1 29 = 0 then y.2.1 6 else y.2.1 6 + (y.1 18).toInt64)) (g_X10_counts_7 P) := by
  have b29 : 0 ≤ (y.1 29).toInt ∧ (y.1 29).toInt ≤ 1 := h.2.2.1 29 (by decide)
  have ta : P 57 = y.2.1 9 := h.2.1 9 (by decide)
  have tb : P 20 = (y.1 18).toInt64 := h.1 18 (by decide)
  have u := RX_long h 9 (by decide) (y.2.1 9 + (y.1 18).toInt64) (P 57 + (y.1 18).toInt64) 57 rfl (by rw [ta])
  have tc : vp_updL P 57 (P 57 + (y.1 18).toInt64) 54 = y.2.1 6 := u.2.1 6 (by decide)
  have td : vp_updL P 57 (P 57 + (y.1 18).toInt64) 41 = (y.1 29).toInt64 := u.1 29 (by decide)
  unfold g_X10_counts_7
  rw [tb, tc, td]
  rcases b01 b29.1 b29.2 with e | e
  · rw [if_neg (show ¬ (y.1 29).toInt64 = 1 by rw [e]; decide), if_pos e]
    exact RX_long u 6 (by decide) _ _ 54 rfl (Int64.add_zero _)
  · rw [if_pos (show (y.1 29).toInt64 = 1 by rw [e]; rfl), if_neg (by rw [e]; decide)]
    exact RX_long u 6 (by decide) _ _ 54 rfl rfl
theorem rx_sum2 {T : Int} {y : XS} {P : Nat → Int64} (h : RX T y P) : RX T (xL (xL y 10 (y.2.1 10 + (y.1 23).toInt64)) 7 (if y.1 29 = 0 then y.2.1 7 else y.2.1 7 + (y.1 23).toInt64)) (g_X10_counts_8 P) := by
  have b29 : 0 ≤ (y.1 29).toInt ∧ (y.1 29).toInt ≤ 1 := h.2.2.1 29 (by decide)
  have ta : P 58 = y.2.1 10 := h.2.1 10 (by decide)
  have tb : P 21 = (y.1 23).toInt64 := h.1 23 (by decide)
  have u := RX_long h 10 (by decide) (y.2.1 10 + (y.1 23).toInt64) (P 58 + (y.1 23).toInt64) 58 rfl (by rw [ta])
  have tc : vp_updL P 58 (P 58 + (y.1 23).toInt64) 55 = y.2.1 7 := u.2.1 7 (by decide)
  have td : vp_updL P 58 (P 58 + (y.1 23).toInt64) 41 = (y.1 29).toInt64 := u.1 29 (by decide)
  unfold g_X10_counts_8
  rw [tb, tc, td]
  rcases b01 b29.1 b29.2 with e | e
  · rw [if_neg (show ¬ (y.1 29).toInt64 = 1 by rw [e]; decide), if_pos e]
    exact RX_long u 7 (by decide) _ _ 55 rfl (Int64.add_zero _)
  · rw [if_pos (show (y.1 29).toInt64 = 1 by rw [e]; rfl), if_neg (by rw [e]; decide)]
    exact RX_long u 7 (by decide) _ _ 55 rfl rfl
theorem st_count_37 (x : XS) : (st_count x).1 37 = x.1 37 + 1 := by
  simp only [st_count, f_X6_countInHour_o8_0, f_X7_add_o0_0, upd_at]
theorem st_count_eq (x : XS) : st_count x = xL (xL (xL (xL (xL (xL (xI (xI (xI (xL x 4 (x.2.1 4 + x.2.1 0)) 37 (x.1 37 + 1)) 36 (if x.1 29 = 0 then x.1 36 else x.1 36 + 1)) 35 (x.1 35 ||| f_X6_presentAlarms_r (x.1 3) (x.1 7) (x.1 12) (x.1 17) (x.1 22))) 8 (x.2.1 8 + (x.1 4).toInt64)) 5 (if x.1 29 = 0 then x.2.1 5 else x.2.1 5 + (x.1 4).toInt64)) 9 (x.2.1 9 + (x.1 18).toInt64)) 6 (if x.1 29 = 0 then x.2.1 6 else x.2.1 6 + (x.1 18).toInt64)) 10 (x.2.1 10 + (x.1 23).toInt64)) 7 (if x.1 29 = 0 then x.2.1 7 else x.2.1 7 + (x.1 23).toInt64) := by
    unfold st_count f_X6_countInHour_o6_0 f_X6_countInHour_o6_1 f_X6_countInHour_o7_0 f_X6_countInHour_o7_1 f_X6_countInHour_o7_2 f_X6_countInHour_o7_3 f_X6_countInHour_o8_0 f_X6_countInHour_o8_1 f_X6_countInHour_o8_2 f_X6_countInHour_o8_3 f_X7_add_o0_0 f_X7_add_o0_1 f_X7_add_o0_2 f_X7_add_o0_3
    generalize (f_X6_presentAlarms_r (x.1 3) (x.1 7) (x.1 12) (x.1 17) (x.1 22)) = al
    refine Prod.ext (funext fun j => ?_) (Prod.ext (funext fun j => ?_) rfl)
    · show upd (upd (upd x.1 35 _) 36 _) 37 _ j = upd (upd (upd x.1 37 _) 36 _) 35 _ j
      by_cases c35 : j = 35
      · subst c35
        rw [upd_ne _ _ (show ¬ 35 = 37 by decide), upd_ne _ _ (show ¬ 35 = 36 by decide), upd_at, upd_at]
      by_cases c36 : j = 36
      · subst c36
        rw [upd_ne _ _ (show ¬ 36 = 37 by decide), upd_at, upd_ne _ _ (show ¬ 36 = 35 by decide), upd_at]
      by_cases c37 : j = 37
      · subst c37
        rw [upd_at, upd_ne _ _ (show ¬ 37 = 35 by decide), upd_ne _ _ (show ¬ 37 = 36 by decide), upd_at]
      rw [upd_ne _ _ c37, upd_ne _ _ c36, upd_ne _ _ c35, upd_ne _ _ c35, upd_ne _ _ c36, upd_ne _ _ c37]
    · show vp_updL (vp_updL (vp_updL (vp_updL (vp_updL (vp_updL (vp_updL x.2.1 4 _) 5 _) 6 _) 7 _) 8 _) 9 _) 10 _ j = vp_updL (vp_updL (vp_updL (vp_updL (vp_updL (vp_updL (vp_updL x.2.1 4 _) 8 _) 5 _) 9 _) 6 _) 10 _) 7 _ j
      by_cases c4 : j = 4
      · subst c4
        rw [vpu_ne _ _ (show ¬ 4 = 10 by decide), vpu_ne _ _ (show ¬ 4 = 9 by decide), vpu_ne _ _ (show ¬ 4 = 8 by decide), vpu_ne _ _ (show ¬ 4 = 7 by decide), vpu_ne _ _ (show ¬ 4 = 6 by decide), vpu_ne _ _ (show ¬ 4 = 5 by decide), vpu_at, vpu_ne _ _ (show ¬ 4 = 7 by decide), vpu_ne _ _ (show ¬ 4 = 10 by decide), vpu_ne _ _ (show ¬ 4 = 6 by decide), vpu_ne _ _ (show ¬ 4 = 9 by decide), vpu_ne _ _ (show ¬ 4 = 5 by decide), vpu_ne _ _ (show ¬ 4 = 8 by decide), vpu_at]
      by_cases c5 : j = 5
      · subst c5
        rw [vpu_ne _ _ (show ¬ 5 = 10 by decide), vpu_ne _ _ (show ¬ 5 = 9 by decide), vpu_ne _ _ (show ¬ 5 = 8 by decide), vpu_ne _ _ (show ¬ 5 = 7 by decide), vpu_ne _ _ (show ¬ 5 = 6 by decide), vpu_at, vpu_ne _ _ (show ¬ 5 = 7 by decide), vpu_ne _ _ (show ¬ 5 = 10 by decide), vpu_ne _ _ (show ¬ 5 = 6 by decide), vpu_ne _ _ (show ¬ 5 = 9 by decide), vpu_at]
      by_cases c6 : j = 6
      · subst c6
        rw [vpu_ne _ _ (show ¬ 6 = 10 by decide), vpu_ne _ _ (show ¬ 6 = 9 by decide), vpu_ne _ _ (show ¬ 6 = 8 by decide), vpu_ne _ _ (show ¬ 6 = 7 by decide), vpu_at, vpu_ne _ _ (show ¬ 6 = 7 by decide), vpu_ne _ _ (show ¬ 6 = 10 by decide), vpu_at]
      by_cases c7 : j = 7
      · subst c7
        rw [vpu_ne _ _ (show ¬ 7 = 10 by decide), vpu_ne _ _ (show ¬ 7 = 9 by decide), vpu_ne _ _ (show ¬ 7 = 8 by decide), vpu_at, vpu_at]
      by_cases c8 : j = 8
      · subst c8
        rw [vpu_ne _ _ (show ¬ 8 = 10 by decide), vpu_ne _ _ (show ¬ 8 = 9 by decide), vpu_at, vpu_ne _ _ (show ¬ 8 = 7 by decide), vpu_ne _ _ (show ¬ 8 = 10 by decide), vpu_ne _ _ (show ¬ 8 = 6 by decide), vpu_ne _ _ (show ¬ 8 = 9 by decide), vpu_ne _ _ (show ¬ 8 = 5 by decide), vpu_at]
      by_cases c9 : j = 9
      · subst c9
        rw [vpu_ne _ _ (show ¬ 9 = 10 by decide), vpu_at, vpu_ne _ _ (show ¬ 9 = 7 by decide), vpu_ne _ _ (show ¬ 9 = 10 by decide), vpu_ne _ _ (show ¬ 9 = 6 by decide), vpu_at]
      by_cases c10 : j = 10
      · subst c10
        rw [vpu_at, vpu_ne _ _ (show ¬ 10 = 7 by decide), vpu_at]
      rw [vpu_ne _ _ c10, vpu_ne _ _ c9, vpu_ne _ _ c8, vpu_ne _ _ c7, vpu_ne _ _ c6, vpu_ne _ _ c5, vpu_ne _ _ c4, vpu_ne _ _ c7, vpu_ne _ _ c10, vpu_ne _ _ c6, vpu_ne _ _ c9, vpu_ne _ _ c5, vpu_ne _ _ c8, vpu_ne _ _ c4]
theorem rx_count {T : Int} {x : XS} {S : Nat → Int64} (h : RX T x S) (hT : T < 2000000000) : RX (T + 1) (st_count x) (g_X10_counts_9 (g_X10_counts_8 (g_X10_counts_7 (g_X10_counts_6 (g_X10_counts_5 (g_X10_counts_4 (g_X10_counts_3 (g_X10_counts_2 (g_X10_counts_1 (g_X10_counts_0 S)))))))))) ∧ 0 < ((st_count x).1 37).toInt := by
  have h' : RX (T + 1) x S := RX_mono h (by omega)
  have h40 : S 40 = x.2.1 0 := h.2.1 0 (by decide)
  have h50 : S 50 = x.2.1 4 := h.2.1 4 (by decide)
  have e1 : (1 : Int32).toInt = 1 := by decide
  have b37 : 0 ≤ (x.1 37).toInt ∧ (x.1 37).toInt ≤ T := h.2.2.1 37 (by decide)
  have b36 : 0 ≤ (x.1 36).toInt ∧ (x.1 36).toInt ≤ T := h.2.2.1 36 (by decide)
  have b35 : 0 ≤ (x.1 35).toInt ∧ (x.1 35).toInt ≤ 31 := h.2.2.1 35 (by decide)
  have b29 : 0 ≤ (x.1 29).toInt ∧ (x.1 29).toInt ≤ 1 := h.2.2.1 29 (by decide)
  have i37 : (x.1 37 + 1).toInt = (x.1 37).toInt + 1 := by rw [Kit.i32_add (by rw [e1]; omega) (by rw [e1]; omega), e1]
  have j37 : (x.1 37 + 1).toInt64 = (x.1 37).toInt64 + 1 := pz_add (by rw [e1]; omega) (by rw [e1]; omega)
  have i36 : (x.1 36 + 1).toInt = (x.1 36).toInt + 1 := by rw [Kit.i32_add (by rw [e1]; omega) (by rw [e1]; omega), e1]
  have j36 : (x.1 36 + 1).toInt64 = (x.1 36).toInt64 + 1 := pz_add (by rw [e1]; omega) (by rw [e1]; omega)
  -- counts_0
  have r1 := RX_long h' 4 (by decide) (x.2.1 4 + x.2.1 0) (S 50 + S 40) 50 rfl (by rw [h50, h40])
  have g59 : vp_updL S 50 (S 50 + S 40) 59 = (x.1 37).toInt64 := h.1 37 (by decide)
  have r2 := RX_int r1 37 (by decide) (x.1 37 + 1) (vp_updL S 50 (S 50 + S 40) 59 + 1) 59 rfl (by rw [g59, j37]) (by show (0 : Int) ≤ _; omega) (by show _ ≤ T + 1; omega)
  obtain ⟨Z, hZ⟩ : ∃ Z, Z = vp_updL (vp_updL S 50 (S 50 + S 40)) 59 (vp_updL S 50 (S 50 + S 40) 59 + 1) := ⟨_, rfl⟩
  have e0 : g_X10_counts_0 S = vp_updL Z 52 (Z 52 + Z 41) := by rw [hZ]; rfl
  rw [← hZ] at r2
  have g52 : Z 52 = (x.1 36).toInt64 := r2.1 36 (by decide)
  have g41 : Z 41 = (x.1 29).toInt64 := r2.1 29 (by decide)
  have w36 : Z 52 + Z 41 = (if x.1 29 = 0 then x.1 36 else x.1 36 + 1).toInt64 := by
    rw [g52, g41]
    rcases b01 b29.1 b29.2 with e | e
    · rw [if_pos e, e]; exact Int64.add_zero _
    · rw [if_neg (by rw [e]; decide), e, j36]; rfl
  have k36 : 0 ≤ (if x.1 29 = 0 then x.1 36 else x.1 36 + 1).toInt ∧ (if x.1 29 = 0 then x.1 36 else x.1 36 + 1).toInt ≤ T + 1 := by
    split
    · omega
    · omega
  have r3 := RX_int r2 36 (by decide) (if x.1 29 = 0 then x.1 36 else x.1 36 + 1) (Z 52 + Z 41) 52 rfl w36 k36.1 k36.2
  rw [← e0] at r3
  obtain ⟨Y, hY⟩ : ∃ Y, Y = g_X10_counts_0 S := ⟨_, rfl⟩
  rw [← hY] at r3 ⊢
  -- the alarms
  have F0 : f_X10_isFaulty_r Y 0 = f_X8_isFaulty_r (x.1 7) := pz_faulty _ Y 0 (r3.1 7 (by decide))
  have F1 : f_X10_isFaulty_r Y 1 = f_X8_isFaulty_r (x.1 12) := pz_faulty _ Y 1 (r3.1 12 (by decide))
  have F2 : f_X10_isFaulty_r Y 2 = f_X8_isFaulty_r (x.1 17) := pz_faulty _ Y 2 (r3.1 17 (by decide))
  have F3 : f_X10_isFaulty_r Y 3 = f_X8_isFaulty_r (x.1 22) := pz_faulty _ Y 3 (r3.1 22 (by decide))
  have y38 : Y 38 = (x.1 3).toInt64 := r3.1 3 (by decide)
  have y51 : Y 51 = (x.1 35).toInt64 := r3.1 35 (by decide)
  have c1 : g_X10_counts_1 Y = vp_updL Y 51 (Y 51 ||| (if f_X8_isFaulty_r (x.1 7) = 0 then 0 else 1)) := by
    unfold g_X10_counts_1; rw [F0]; split <;> rfl
  have c2 : ∀ A, g_X10_counts_2 (vp_updL Y 51 A) = vp_updL Y 51 (A ||| (if f_X8_isFaulty_r (x.1 12) = 0 then 0 else 2)) := by
    intro A
    unfold g_X10_counts_2
    rw [show f_X10_isFaulty_r (vp_updL Y 51 A) 1 = f_X8_isFaulty_r (x.1 12) from F1, vpu_at, updL_2, updL_2]; split <;> rfl
  have c3 : ∀ A, g_X10_counts_3 (vp_updL Y 51 A) = vp_updL Y 51 (A ||| (if f_X8_isFaulty_r (x.1 17) = 0 then 0 else 4)) := by
    intro A
    unfold g_X10_counts_3
    rw [show f_X10_isFaulty_r (vp_updL Y 51 A) 2 = f_X8_isFaulty_r (x.1 17) from F2, vpu_at, updL_2, updL_2]; split <;> rfl
  have c4 : ∀ A, g_X10_counts_4 (vp_updL Y 51 A) = vp_updL Y 51 (A ||| (if f_X8_isFaulty_r (x.1 22) = 0 then 0 else 8)) := by
    intro A
    unfold g_X10_counts_4
    rw [show f_X10_isFaulty_r (vp_updL Y 51 A) 3 = f_X8_isFaulty_r (x.1 22) from F3, vpu_at, updL_2, updL_2]; split <;> rfl
  have c5 : ∀ A, g_X10_counts_5 (vp_updL Y 51 A) = vp_updL Y 51 (A ||| (if x.1 3 ≤ 0 then 0 else 16)) := by
    intro A
    unfold g_X10_counts_5
    rw [show vp_updL Y 51 A 38 = (x.1 3).toInt64 from y38, vpu_at, updL_2, updL_2]
    by_cases c : x.1 3 ≤ 0
    · rw [if_pos (m_le0.mpr c), if_pos c]
    · rw [if_neg (fun z => c (m_le0.mp z)), if_neg c]
  obtain ⟨al1, al2⟩ := pz_alarms (x.1 3) (x.1 7) (x.1 12) (x.1 17) (x.1 22)
  have al3 := al2 (x.1 35) b35.1 b35.2
  rw [c1, c2, c3, c4, c5]
  have hA : (((((Y 51 ||| (if f_X8_isFaulty_r (x.1 7) = 0 then 0 else 1)) ||| (if f_X8_isFaulty_r (x.1 12) = 0 then 0 else 2)) ||| (if f_X8_isFaulty_r (x.1 17) = 0 then 0 else 4)) ||| (if f_X8_isFaulty_r (x.1 22) = 0 then 0 else 8)) ||| (if x.1 3 ≤ 0 then 0 else 16) : Int64) = (x.1 35 ||| f_X6_presentAlarms_r (x.1 3) (x.1 7) (x.1 12) (x.1 17) (x.1 22)).toInt64 := by
    rw [pz_or, al1, y51]
    simp only [Int64.or_assoc]
  have r4 := RX_int r3 35 (by decide) (x.1 35 ||| f_X6_presentAlarms_r (x.1 3) (x.1 7) (x.1 12) (x.1 17) (x.1 22)) _ 51 rfl hA al3.1 al3.2
  obtain ⟨W, hW⟩ : ∃ W, W = vp_updL Y 51 (((((Y 51 ||| (if f_X8_isFaulty_r (x.1 7) = 0 then 0 else 1)) ||| (if f_X8_isFaulty_r (x.1 12) = 0 then 0 else 2)) ||| (if f_X8_isFaulty_r (x.1 17) = 0 then 0 else 4)) ||| (if f_X8_isFaulty_r (x.1 22) = 0 then 0 else 8)) ||| (if x.1 3 ≤ 0 then 0 else 16) : Int64) := ⟨_, rfl⟩
  rw [← hW] at r4 ⊢
  have v2 := rx_sum2 (rx_sum1 (rx_sum0 r4))
  have eq := st_count_eq x
  refine ⟨?_, ?_⟩
  · rw [eq]; exact v2
  · have : (st_count x).1 37 = x.1 37 + 1 := st_count_37 x
    rw [this]; omega
