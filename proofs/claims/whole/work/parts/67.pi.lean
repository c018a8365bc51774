theorem mix_h (h a : Int64) : f_X10_mix_o0_4 h a = f_X9_hashed_r h a := rfl
theorem mx_add (S : Nat → Int64) (h : Int64) (b m n : Nat) : mx S h b (m + n) = mx S (mx S h b m) (b + m) n := by
  induction n with
  | zero => rfl
  | succ n ih =>
    show f_X10_mix_o0_4 (mx S h b (m + n)) (S (b + (m + n))) = f_X10_mix_o0_4 (mx S (mx S h b m) (b + m) n) (S (b + m + n))
    rw [ih, Nat.add_assoc]
theorem hr_in_mx (S : Nat → Int64) (f : Nat → Int64) (h : Int64) (b m : Nat) (e : ∀ j, j < m → f j = S (b + j)) : hr_in f h m = mx S h b m := by
  induction m with
  | zero => rfl
  | succ m ih =>
    show f_X9_hashed_r (hr_in f h m) (f m) = f_X10_mix_o0_4 (mx S h b m) (S (b + m))
    rw [ih (fun j hj => e j (by omega)), e m (by omega)]; rfl
theorem hr_out_mx (S : Nat → Int64) (v : Nat → Nat → Int64) (w : Nat) (h : Int64) (b n : Nat) (e : ∀ i j, i < n → j < w → v i j = S (b + w * i + j)) : hr_out v w h n = mx S h b (w * n) := by
  induction n with
  | zero => rfl
  | succ n ih =>
    show hr_in (v n) (hr_out v w h n) w = _
    rw [ih (fun i j hi hj => e i j (by omega) hj), Nat.mul_succ, mx_add]
    exact hr_in_mx S (v n) _ (b + w * n) w (fun j hj => e n j (by omega) hj)
/-- a ring's digest -/
theorem rs_ringHash {b w cap : Nat} (hr : rgOk w cap) {S : Nat → Int64} {o n : Int32} {g : Nat → Int64} (hR : relR b w cap S o n g) (h : Int64) :
    mx S h b (1 + w * (S b).toInt.toNat) = hr_out (fun i j => f_X4_valueAt_r (w * cap) (nI cap) (nI w) o g (nI i) (nI j)) w (f_X9_hashed_r h n.toInt64) n.toNatClampNeg := by
  obtain ⟨a, c, rfl, rfl, h3, h4, h5, h6⟩ := hR
  have hcap : cap ≤ 30 := by rcases hr with ⟨rfl, rfl⟩ | ⟨rfl, rfl⟩ | ⟨rfl, rfl⟩ <;> omega
  rw [h5, pn_back (by omega), pn_c (by omega), pn_64 (by omega), mx_add]
  rw [show mx S h b 1 = f_X9_hashed_r h (lN c) by show f_X10_mix_o0_4 h (S (b + 0)) = _; rw [Nat.add_zero, h5]; rfl]
  refine (hr_out_mx S _ w _ (b + 1) c (fun i j hi hj => ?_)).symm
  rw [rg_value hr h3 (by omega) hj, ← h6 i j hi hj]
/-- a ring's value -/
theorem rs_ringAt {b w cap : Nat} (hr : rgOk w cap) {S : Nat → Int64} {o n : Int32} {g : Nat → Int64} (hR : relR b w cap S o n g) {i j : Nat} (hi : (nI i) < n) (hi' : i < 100000) (hj : j < w) :
    S (b + 1 + w * i + j) = f_X4_valueAt_r (w * cap) (nI cap) (nI w) o g (nI i) (nI j) ∧ i < cap := by
  obtain ⟨a, c, rfl, rfl, h3, h4, h5, h6⟩ := hR
  have hcap : cap ≤ 30 := by rcases hr with ⟨rfl, rfl⟩ | ⟨rfl, rfl⟩ | ⟨rfl, rfl⟩ <;> omega
  have hi2 : i < c := (pn_lt (by omega) (by omega)).mp hi
  rw [rg_value hr h3 (by omega) hj, ← h6 i j hi2 hj]
  exact ⟨rfl, by omega⟩
theorem rs_ringN {b w cap : Nat} (hr : rgOk w cap) {S : Nat → Int64} {o n : Int32} {g : Nat → Int64} (hR : relR b w cap S o n g) : S b = n.toInt64 ∧ 0 ≤ n.toInt ∧ n.toInt ≤ cap ∧ 0 ≤ (S b).toInt ∧ (S b).toInt ≤ cap := by
  obtain ⟨a, c, rfl, rfl, h3, h4, h5, h6⟩ := hR
  have hcap : cap ≤ 30 := by rcases hr with ⟨rfl, rfl⟩ | ⟨rfl, rfl⟩ | ⟨rfl, rfl⟩ <;> omega
  rw [h5, pn_64 (by omega), pn_t (by omega), pn_l (by omega)]
  exact ⟨rfl, by omega, by omega, by omega, by omega⟩
theorem rs_digest {T : Int} {x : XS} {S : Nat → Int64} (h : RX T x S) (np : Int32) : f_X10_digest_r np S = fa_X9_digest_r np x := by
  have s0 : S 0 = (x.1 0).toInt64 := h.1 0 (by decide)
  have s1 : S 1 = (x.1 25).toInt64 := h.1 25 (by decide)
  have s2 : S 2 = (x.1 26).toInt64 := h.1 26 (by decide)
  have s3 : S 3 = (x.1 27).toInt64 := h.1 27 (by decide)
  have s4 : S 4 = (x.1 28).toInt64 := h.1 28 (by decide)
  have s5 : S 5 = (x.1 1).toInt64 := h.1 1 (by decide)
  have s6 : S 6 = (x.1 5).toInt64 := h.1 5 (by decide)
  have s10 : S 10 = (x.1 6).toInt64 := h.1 6 (by decide)
  have s14 : S 14 = (x.1 7).toInt64 := h.1 7 (by decide)
  have s18 : S 18 = (x.1 8).toInt64 := h.1 8 (by decide)
  have s7 : S 7 = (x.1 10).toInt64 := h.1 10 (by decide)
  have s11 : S 11 = (x.1 11).toInt64 := h.1 11 (by decide)
  have s15 : S 15 = (x.1 12).toInt64 := h.1 12 (by decide)
  have s19 : S 19 = (x.1 13).toInt64 := h.1 13 (by decide)
  have s8 : S 8 = (x.1 15).toInt64 := h.1 15 (by decide)
  have s12 : S 12 = (x.1 16).toInt64 := h.1 16 (by decide)
  have s16 : S 16 = (x.1 17).toInt64 := h.1 17 (by decide)
  have s20 : S 20 = (x.1 18).toInt64 := h.1 18 (by decide)
  have s9 : S 9 = (x.1 20).toInt64 := h.1 20 (by decide)
  have s13 : S 13 = (x.1 21).toInt64 := h.1 21 (by decide)
  have s17 : S 17 = (x.1 22).toInt64 := h.1 22 (by decide)
  have s21 : S 21 = (x.1 23).toInt64 := h.1 23 (by decide)
  have s37 : S 37 = (x.1 2).toInt64 := h.1 2 (by decide)
  have s38 : S 38 = (x.1 3).toInt64 := h.1 3 (by decide)
  have s39 : S 39 = (x.1 4).toInt64 := h.1 4 (by decide)
  have s41 : S 41 = (x.1 29).toInt64 := h.1 29 (by decide)
  have s49 : S 49 = (x.1 34).toInt64 := h.1 34 (by decide)
  have s40 : S 40 = x.2.1 0 := h.2.1 0 (by decide)
  have s42 : S 42 = x.2.1 1 := h.2.1 1 (by decide)
  have s43 : S 43 = x.2.1 2 := h.2.1 2 (by decide)
  have s44 : S 44 = x.2.1 3 := h.2.1 3 (by decide)
  have s50 : S 50 = x.2.1 4 := h.2.1 4 (by decide)
  have b29 : 0 ≤ (x.1 29).toInt ∧ (x.1 29).toInt ≤ 1 := h.2.2.1 29 (by decide)
  have d0 := h.2.2.2.1.1
  have d1 := h.2.2.2.1.2.2.1
  have m6 : ∀ a, mx S a 0 6 = f_X9_hashed_r (f_X9_hashed_r (f_X9_hashed_r (f_X9_hashed_r (f_X9_hashed_r (f_X9_hashed_r a (x.1 0).toInt64) (x.1 25).toInt64) (x.1 26).toInt64) (x.1 27).toInt64) (x.1 28).toInt64) (x.1 1).toInt64 := by
    intro a; rw [← s0, ← s1, ← s2, ← s3, ← s4, ← s5]; rfl
  have m11 : ∀ a, mx S a 26 11 = f_X3_hashOfTables_r (x.2.2.1 0) (x.2.2.1 1) a := by
    intro a; unfold f_X3_hashOfTables_r
    rw [← d0 0 (by decide), ← d0 1 (by decide), ← d0 2 (by decide), ← d0 3 (by decide), ← d0 4 (by decide), ← d0 5 (by decide), ← d1 0 (by decide), ← d1 1 (by decide), ← d1 2 (by decide), ← d1 3 (by decide), ← d1 4 (by decide)]; rfl
  have m3 : ∀ a, mx S a 37 3 = f_X9_hashed_r (f_X9_hashed_r (f_X9_hashed_r a (x.1 2).toInt64) (x.1 3).toInt64) (x.1 4).toInt64 := by
    intro a; rw [← s37, ← s38, ← s39]; rfl
  have m2 : ∀ a, mx S a 40 2 = f_X9_hashed_r (f_X9_hashed_r a (x.2.1 0)) (x.1 29).toInt64 := by
    intro a; rw [← s40, ← s41]; rfl
  have g0 := rs_ringHash rg0 h.2.2.2.2.1
  have g1 := rs_ringHash rg1 h.2.2.2.2.2.1
  have g2 := rs_ringHash rg2 h.2.2.2.2.2.2
  have dn : f_X10_densityNow_r S = f_X6_presentDensity_r (x.1 18) (x.1 23) (x.1 25) (x.2.2.1 0) := (rx_dens h).1
  unfold f_X10_digest_r
  rw [g0, g1, g2, m6, m11, m3, m2, dn, show f_X10_totalOf_0_r S = S 42 from rfl, show f_X10_totalOf_1_r S = S 43 from rfl, show f_X10_totalOf_2_r S = S 44 from rfl, show f_X10_totalOf_3_r S = S 50 from rfl, s42, s43, s44, s50, s49, s6, s10, s14, s18, s7, s11, s15, s19, s8, s12, s16, s20, s9, s13, s17, s21]
  unfold fa_X9_digest_r f_X6_hashAfter_r f_X6_hashOfSettings_r f_X8_hashAfter_r
  simp only [mix_h]
  rcases b01 b29.1 b29.2 with e | e
  · rw [if_pos e, e]; rfl
  · rw [if_neg (by rw [e]; decide), e]; rfl
theorem dgo_congr (F H : Nat → Int64) (v : Int64) (m s : Nat) (e : ∀ i, s ≤ i → i < s + m → F i = H i) : dgo F v m s = dgo H v m s := by
  induction m generalizing s with
  | zero => rfl
  | succ m ih =>
    show (if F s < v then dgo F v m (s + 1) else nI s) = (if H s < v then dgo H v m (s + 1) else nI s)
    rw [e s (by omega) (by omega), ih (s + 1) (fun i h1 h2 => e i (by omega) (by omega))]
theorem rs_differentialFor {T : Int} {x : XS} {S : Nat → Int64} (h : RX T x S) (v : Int64) : mdFor S v = fdFor x v := by
  have h20 : S 20 = (x.1 18).toInt64 := h.1 18 (by decide)
  have h21 : S 21 = (x.1 23).toInt64 := h.1 23 (by decide)
  have b18 : -634 ≤ (x.1 18).toInt ∧ (x.1 18).toInt ≤ 30000 := h.2.2.1 18 (by decide)
  have b23 : -1134 ≤ (x.1 23).toInt ∧ (x.1 23).toInt ≤ 29500 := h.2.2.1 23 (by decide)
  unfold mdFor fdFor
  refine dgo_congr _ _ v 30001 0 (fun i h1 h2 => ?_)
  show f_X10_flowBy_r S (nI i).toInt64 (S 20) (S 21) = f_X3_flowAt_r (x.1 25) (x.1 26) (x.2.2.1 1) (nI i) (x.1 18) (f_X6_presentDensity_r (x.1 18) (x.1 23) (x.1 25) (x.2.2.1 0))
  rw [h20, h21]
  exact ((rx_flowOf h (nI i) (x.1 18) (x.1 23) (by rw [pn_t (by omega)]; omega) (by rw [pn_t (by omega)]; omega) (by omega) b18.2 b23.1 (by omega)).1).symm
theorem rs_args {T : Int} {x : XS} {S : Nat → Int64} (h : RX T x S) : (∀ i, i < 30001 → 0 ≤ ((100 * (nI i).toInt64) * (f_X6_presentDensity_r (x.1 18) (x.1 23) (x.1 25) (x.2.2.1 0))).toInt ∧ ((100 * (nI i).toInt64) * (f_X6_presentDensity_r (x.1 18) (x.1 23) (x.1 25) (x.2.2.1 0))).toInt < 70368744177664)
    ∧ (∀ i, i < 30001 → 0 ≤ ((100 * (nI i).toInt64) * (f_X10_densityAt_r S (S 20) (S 21))).toInt ∧ ((100 * (nI i).toInt64) * (f_X10_densityAt_r S (S 20) (S 21))).toInt < 70368744177664)
    ∧ (¬ (101 * (if (1 : Int32) < ((x.1 23) + 2731) then ((x.1 23) + 2731) else 1).toInt64) = 0) ∧ (¬ (100 * (if (1 : Int32) < (x.1 18) then (x.1 18) else 1)) = 0)
    ∧ (0 ≤ (S 2).toInt ∧ (S 2).toInt ≤ 100000) ∧ (S 20).toInt ≤ 1000000 ∧ (-1000000 ≤ (S 21).toInt ∧ (S 21).toInt ≤ 1000000) := by
  obtain ⟨d1, d2, d3⟩ := rx_dens h
  have h20 : S 20 = (x.1 18).toInt64 := h.1 18 (by decide)
  have h21 : S 21 = (x.1 23).toInt64 := h.1 23 (by decide)
  have h2 : S 2 = (x.1 26).toInt64 := h.1 26 (by decide)
  have b18 : -634 ≤ (x.1 18).toInt ∧ (x.1 18).toInt ≤ 30000 := h.2.2.1 18 (by decide)
  have b23 : -1134 ≤ (x.1 23).toInt ∧ (x.1 23).toInt ≤ 29500 := h.2.2.1 23 (by decide)
  have b26 : 1 ≤ (x.1 26).toInt ∧ (x.1 26).toInt ≤ 100000 := h.2.2.1 26 (by decide)
  have k : ∀ i, i < 30001 → 0 ≤ ((100 * (nI i).toInt64) * (f_X6_presentDensity_r (x.1 18) (x.1 23) (x.1 25) (x.2.2.1 0))).toInt ∧ ((100 * (nI i).toInt64) * (f_X6_presentDensity_r (x.1 18) (x.1 23) (x.1 25) (x.2.2.1 0))).toInt < 70368744177664 :=
    fun i hi => pz_arg (nI i) _ (by rw [pn_t (by omega)]; omega) (by rw [pn_t (by omega)]; omega) d2 d3
  exact ⟨k, fun i hi => by rw [d1]; exact k i hi, pz_k101 b23.1 (by omega), pz_k100 b18.2, by rw [h2, pz_t]; omega, by rw [h20, pz_t]; omega, by rw [h21, pz_t]; omega⟩
theorem rs_flowFor {T : Int} {x : XS} {S : Nat → Int64} (h : RX T x S) (p q s : Int32) (hp0 : ¬ p.toInt64 < 0) (hp1 : p.toInt64 ≤ 30000) (hq0 : ¬ q.toInt64 < 0) (hq1 : q.toInt64 ≤ 30000) (hr0 : ¬ s.toInt64 < (-500)) (hr1 : s.toInt64 ≤ 3000) :
    f_X10_flowFor_r S p q s = fa_X9_flowFor_r x p q s ∧ (¬ (101 * (if (1 : Int32) < (s + 2731) then (s + 2731) else 1).toInt64) = 0) ∧ (0 ≤ ((100 * p.toInt64) * (f_X3_densityAt_r (x.1 25) (x.2.2.1 0) q s)).toInt) ∧ (((100 * p.toInt64) * (f_X3_densityAt_r (x.1 25) (x.2.2.1 0) q s)).toInt < 70368744177664) ∧ (¬ (100 * (if (1 : Int32) < q then q else 1)) = 0)
    ∧ (0 ≤ ((100 * p.toInt64) * (f_X10_densityAt_r S q.toInt64 s.toInt64)).toInt) ∧ (((100 * p.toInt64) * (f_X10_densityAt_r S q.toInt64 s.toInt64)).toInt < 70368744177664) ∧ (0 ≤ (p.toInt64).toInt ∧ (p.toInt64).toInt ≤ 30000) ∧ ((q.toInt64).toInt ≤ 1000000) ∧ (-1000000 ≤ (s.toInt64).toInt ∧ (s.toInt64).toInt ≤ 1000000) := by
  have p0 := pz_ge (c := 0) rfl hp0
  have p1 := pz_le' (c := 30000) rfl hp1
  have q0 := pz_ge (c := 0) rfl hq0
  have q1 := pz_le' (c := 30000) rfl hq1
  have s0 := pz_ge (c := -500) rfl hr0
  have s1 := pz_le' (c := 3000) rfl hr1
  have k0 : (0 : Int32).toInt = 0 := by decide
  have k1 : (30000 : Int32).toInt = 30000 := by decide
  have k2 : (-500 : Int32).toInt = -500 := by decide
  have k3 : (3000 : Int32).toInt = 3000 := by decide
  have b25 : 0 ≤ (x.1 25).toInt ∧ (x.1 25).toInt ≤ 1 := h.2.2.1 25 (by decide)
  have hd := pz_dens (x.1 25) (x.2.2.1 0) S q s (b01 b25.1 b25.2) (h.1 25 (by decide)) h.2.2.2.1.1 h.2.2.2.1.2.1 (by omega) (by omega) (by omega) (by omega)
  have ar := pz_arg p _ (by omega) (by omega) hd.2.1 hd.2.2
  have hf := rx_flowOf h p q s (by omega) (by omega) (by omega) (by omega) (by omega) (by omega)
  refine ⟨hf.1.symm, pz_k101 (by omega) (by omega), ar.1, ar.2, pz_k100 (by omega), by rw [← hd.1]; exact ar.1, by rw [← hd.1]; exact ar.2, by rw [pz_t]; omega, by rw [pz_t]; omega, by rw [pz_t]; omega⟩
theorem rs_isFlowing {T : Int} {x : XS} {S : Nat → Int64} (h : RX T x S) : f_X10_isFlowing_r S = fa_X9_isFlowing_r x := by
  have s41 : S 41 = (x.1 29).toInt64 := h.1 29 (by decide)
  have b29 : 0 ≤ (x.1 29).toInt ∧ (x.1 29).toInt ≤ 1 := h.2.2.1 29 (by decide)
  unfold f_X10_isFlowing_r fa_X9_isFlowing_r
  rw [s41]
  rcases b01 b29.1 b29.2 with e | e
  · rw [e]; decide
  · rw [e]; decide
theorem rs_tells {x : Int32} {v : Int64} (h : v = x.toInt64) : f_X10_tells_r v = x := by unfold f_X10_tells_r; rw [h, pz_back]
theorem rx_init : RX 0 x0 f_X10_init_o1 := by
  refine ⟨by decide +kernel, by decide +kernel, by decide +kernel, ⟨by decide +kernel, by decide +kernel, by decide +kernel, by decide +kernel⟩, ?_, ?_, ?_⟩
  · exact ⟨0, 0, by decide +kernel, by decide +kernel, by decide, by decide, by decide +kernel, fun i j hi => absurd hi (by omega)⟩
  · exact ⟨0, 0, by decide +kernel, by decide +kernel, by decide, by decide, by decide +kernel, fun i j hi => absurd hi (by omega)⟩
  · exact ⟨0, 0, by decide +kernel, by decide +kernel, by decide, by decide, by decide +kernel, fun i j hi => absurd hi (by omega)⟩
theorem px_init (y1 y2 y3 : XS) (P : Nat → Int64) : PX 0 0 x0 y1 y2 y3 f_X10_init_o1 P := ⟨by decide, rx_init, fun h => absurd h (by decide), fun h => absurd h (by decide), fun h => absurd h (by decide)⟩
theorem in_iff {v lo hi : Int64} : f_X10_in_r v lo hi = 0 ↔ (v < lo ∨ ¬ v ≤ hi) := by
  unfold f_X10_in_r
  by_cases c : v < lo
  · rw [if_pos c]; exact ⟨fun _ => Or.inl c, fun _ => rfl⟩
  · rw [if_neg c]
    by_cases d : hi < v
    · rw [if_pos d]; exact ⟨fun _ => Or.inr (rx_flt64.mp d), fun _ => rfl⟩
    · rw [if_neg d]; exact ⟨fun z => absurd z (by decide), fun z => z.elim (fun k => absurd k c) (fun k => absurd (rx_flt64.mpr k) d)⟩
theorem in_not {v lo hi : Int64} (h0 : ¬ v < lo) (h1 : v ≤ hi) : ¬ f_X10_in_r v lo hi = 0 := fun z => (in_iff.mp z).elim h0 (fun k => k h1)
