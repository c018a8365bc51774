theorem pz_k101 {c : Int32} (h0 : -1134 ≤ c.toInt) (h1 : c.toInt ≤ 30000) : ¬ (101 * (if (1 : Int32) < (c + 2731) then (c + 2731) else 1).toInt64) = 0 := by
  have e2731 : (2731 : Int32).toInt = 2731 := by decide
  have hk : (c + 2731).toInt = c.toInt + 2731 := by rw [Kit.i32_add (by rw [e2731]; omega) (by rw [e2731]; omega), e2731]
  have hc : (1 : Int32) < c + 2731 := by rw [Int32.lt_iff_toInt_lt, hk]; show (1 : Int) < _; omega
  rw [if_pos hc]
  intro z
  have e101 : (101 : Int64).toInt = 101 := by decide
  have := congrArg Int64.toInt z
  rw [Kit.i64_mul (by rw [pz_t, hk, e101]; omega) (by rw [pz_t, hk, e101]; omega), pz_t, hk, e101] at this
  have this' : 101 * (c.toInt + 2731) = 0 := this
  omega
theorem pz_k100 {b : Int32} (h1 : b.toInt ≤ 30000) : ¬ (100 * (if (1 : Int32) < b then b else 1)) = 0 := by
  have key : ∀ v : Int32, 1 ≤ v.toInt → v.toInt ≤ 30000 → ¬ 100 * v = 0 := by
    intro v a b z
    have e : (100 : Int32).toInt = 100 := by decide
    have := congrArg Int32.toInt z
    rw [Kit.i32_mul (by rw [e]; omega) (by rw [e]; omega), e] at this
    have this' : 100 * v.toInt = 0 := this
    omega
  by_cases c : (1 : Int32) < b
  · rw [if_pos c]
    rw [Int32.lt_iff_toInt_lt] at c
    have c' : 1 < b.toInt := c
    exact key b (by omega) h1
  · rw [if_neg c]; decide
theorem rx_mI {T : Int} {x : XS} {S : Nat → Int64} (h : RX T x S) : mI S := by
  obtain ⟨a, c, h1, h2, h3, h4, h5, h6⟩ := h.2.2.2.2.2.2
  refine ⟨by rw [h5, pn_l (by omega)]; omega, ?_⟩
  have d0 : S 10 = (x.1 6).toInt64 := h.1 6 (by decide)
  have d1 : S 11 = (x.1 11).toInt64 := h.1 11 (by decide)
  have d2 : S 12 = (x.1 16).toInt64 := h.1 16 (by decide)
  have d3 : S 13 = (x.1 21).toInt64 := h.1 21 (by decide)
  have c0 : 0 ≤ (x.1 6).toInt ∧ (x.1 6).toInt ≤ 8 := h.2.2.1 6 (by decide)
  have c1 : 0 ≤ (x.1 11).toInt ∧ (x.1 11).toInt ≤ 8 := h.2.2.1 11 (by decide)
  have c2 : 0 ≤ (x.1 16).toInt ∧ (x.1 16).toInt ≤ 8 := h.2.2.1 16 (by decide)
  have c3 : 0 ≤ (x.1 21).toInt ∧ (x.1 21).toInt ≤ 8 := h.2.2.1 21 (by decide)
  intro t ht
  match t, ht with
  | 0, _ => rw [d0, pz_t]; exact c0
  | 1, _ => rw [d1, pz_t]; exact c1
  | 2, _ => rw [d2, pz_t]; exact c2
  | 3, _ => rw [d3, pz_t]; exact c3
  | n + 4, h => exact absurd h (by omega)
theorem rx_pre {T : Int} {x : XS} {S : Nat → Int64} (h : RX T x S) (hT : T < 1999999990) : RX (T + 1) (st_time x) (md_a S) ∧ RX (T + 1) (st_choose (st_fol3 (st_fol2 (st_fol1 (st_fol0 (st_time x)))))) (g_X10_ranges_0 (md_b S)) ∧ mI (md_b S) ∧ ((md_b S) 37 = 0 ∨ (md_b S) 37 = 1) ∧ RX (T + 2) (st_pre x) (md_c S) := by
  have r0 := rx_time h (by omega)
  have r1 := rx_fol3 (rx_fol2 (rx_fol1 (rx_fol0 r0)))
  have eb : md_b S = g_X10_senses_4 (g_X10_senses_3 (g_X10_senses_2 (g_X10_senses_1 (md_a S)))) := by unfold md_b g_X10_senses_5 g_X10_senses_0; exact Eq.refl _
  have r1' : RX (T + 1) (st_fol3 (st_fol2 (st_fol1 (st_fol0 (st_time x))))) (md_b S) := by rw [eb]; exact r1
  have r2 := rx_choose r1'
  have r3 := rx_meas r2 (by omega)
  have ec : md_c S = g_X10_ranges_1 (g_X10_ranges_0 (md_b S)) := by unfold md_c; exact Eq.refl _
  have ep : st_pre x = st_meas (st_choose (st_fol3 (st_fol2 (st_fol1 (st_fol0 (st_time x)))))) := by unfold st_pre; exact Eq.refl _
  refine ⟨r0, r2, rx_mI r1', ?_, ?_⟩
  · have e : md_b S 37 = _ := r1'.1 2 (by decide)
    have b := r1'.2.2.1 2 (by decide)
    have b' : 0 ≤ ((st_fol3 (st_fol2 (st_fol1 (st_fol0 (st_time x))))).1 2).toInt ∧ ((st_fol3 (st_fol2 (st_fol1 (st_fol0 (st_time x))))).1 2).toInt ≤ 1 := b
    rw [e]
    rcases b01 b'.1 b'.2 with z | z
    · rw [z]; exact Or.inl rfl
    · rw [z]; exact Or.inr rfl
  · rw [show T + 2 = T + 1 + 1 by omega, ec, ep]; exact r3
/-- a second -/
theorem rx_second {T : Int} {x : XS} {S : Nat → Int64} (h : RX T x S) (hT : T < 1999999990) : RX (T + 4) (st_second x) (md_second S) ∧ secOk x ∧ mdOk S := by
  obtain ⟨r0, -, m1, m2, r3⟩ := rx_pre h hT
  obtain ⟨d1, d2, d3⟩ := rx_dens r3
  have b4 : 0 ≤ ((st_pre x).1 4).toInt ∧ ((st_pre x).1 4).toInt ≤ 30000 := r3.2.2.1 4 (by decide)
  have b18 : -634 ≤ ((st_pre x).1 18).toInt ∧ ((st_pre x).1 18).toInt ≤ 30000 := r3.2.2.1 18 (by decide)
  have b23 : -1134 ≤ ((st_pre x).1 23).toInt ∧ ((st_pre x).1 23).toInt ≤ 29500 := r3.2.2.1 23 (by decide)
  have b26 : 1 ≤ ((st_pre x).1 26).toInt ∧ ((st_pre x).1 26).toInt ≤ 100000 := r3.2.2.1 26 (by decide)
  have s39 : md_c S 39 = ((st_pre x).1 4).toInt64 := r3.1 4 (by decide)
  have s20 : md_c S 20 = ((st_pre x).1 18).toInt64 := r3.1 18 (by decide)
  have s21 : md_c S 21 = ((st_pre x).1 23).toInt64 := r3.1 23 (by decide)
  have s2 : md_c S 2 = ((st_pre x).1 26).toInt64 := r3.1 26 (by decide)
  have ar := pz_arg ((st_pre x).1 4) _ b4.1 b4.2 d2 d3
  have r4 := rx_flow r3
  have r5 := rx_fill r4
  obtain ⟨r6, r7⟩ := rx_count r5 (by omega)
  have r8 := rx_last r6 r7 (by omega)
  have ed : md_d S = f_X10_flows_o1 (md_c S) := by unfold md_d; exact Eq.refl _
  have ef : md_f S = g_X10_counts_9 (g_X10_counts_8 (g_X10_counts_7 (g_X10_counts_6 (g_X10_counts_5 (g_X10_counts_4 (g_X10_counts_3 (g_X10_counts_2 (g_X10_counts_1 (g_X10_counts_0 (g_X10_loads_0 (f_X10_flows_o1 (md_c S)))))))))))) := by unfold md_f md_e md_d; exact Eq.refl _
  rw [← ed] at r4
  rw [← ef] at r6 r8
  have r6' := r6
  refine ⟨?_, ⟨?_, pz_k101 b23.1 (by omega), ar.1, ar.2, pz_k100 b18.2⟩, rx_mI r0, m1, m2, ?_, ?_, ?_, ?_, ?_, ?_, rx_mI r4, ?_, ⟨?_, ?_⟩⟩
  · rw [show T + 4 = T + 2 + 1 + 1 by omega]
    unfold md_second st_second; exact r8
  · have c0 : 0 ≤ (x.1 6).toInt ∧ (x.1 6).toInt ≤ 8 := h.2.2.1 6 (by decide)
    have c1 : 0 ≤ (x.1 11).toInt ∧ (x.1 11).toInt ≤ 8 := h.2.2.1 11 (by decide)
    have c2 : 0 ≤ (x.1 16).toInt ∧ (x.1 16).toInt ≤ 8 := h.2.2.1 16 (by decide)
    have c3 : 0 ≤ (x.1 21).toInt ∧ (x.1 21).toInt ≤ 8 := h.2.2.1 21 (by decide)
    have sh : ∀ d : Int32, 0 ≤ d.toInt ∧ d.toInt ≤ 8 → ¬ ((1 : Int32) <<< (d &&& 31)) = 0 := by
      intro d hd z
      have := (pz_shift d hd.1 hd.2).1
      rw [z] at this
      exact absurd this (by decide)
    intro t ht
    match t, ht with
    | 0, _ => exact sh _ c0
    | 1, _ => exact sh _ c1
    | 2, _ => exact sh _ c2
    | 3, _ => exact sh _ c3
    | n + 4, h => exact absurd h (by omega)
  · rw [s2, pz_t]; omega
  · rw [d1, s39]; exact ar.1
  · rw [d1, s39]; exact ar.2
  · rw [s39, pz_t]; exact b4
  · rw [s20, pz_t]; omega
  · rw [s21, pz_t]; omega
  · obtain ⟨a, c, h1, h2, h3, h4, h5, h6⟩ := r6'.2.2.2.2.1
    rw [h5, pn_l (by omega)]; omega
  · obtain ⟨a, c, h1, h2, h3, h4, h5, h6⟩ := r6'.2.2.2.2.2.1
    unfold hI1
    rw [h5, pn_l (by omega)]; omega
  · have e : md_f S 59 = ((st_count (st_fill (st_flow (st_pre x)))).1 37).toInt64 := r6'.1 37 (by decide)
    rw [e, pz_t]; exact r7
theorem rx_secs {T : Int} {x : XS} {S : Nat → Int64} (h : RX T x S) (n : Nat) (hT : T + 4 * n < 1999999990) : RX (T + 4 * n) (secs n x) (mds n S) ∧ ∀ k, k < n → secOk (secs k x) ∧ mdOk (mds k S) := by
  induction n with
  | zero => exact ⟨by rw [show T + 4 * ((0 : Nat) : Int) = T by omega]; exact h, fun k hk => absurd hk (by omega)⟩
  | succ n ih =>
    obtain ⟨a, b⟩ := ih (by omega)
    obtain ⟨c, d⟩ := rx_second a (by omega)
    refine ⟨by rw [show T + 4 * ((n + 1 : Nat) : Int) = T + 4 * n + 4 by omega]; exact c, fun k hk => ?_⟩
    by_cases e : k = n
    · subst e; exact d
    · exact b k (by omega)
theorem rx_xbool {T : Int} {x : XS} {S : Nat → Int64} (h : RX T x S) : xbool x := by
  have c0 : 0 ≤ (x.1 9).toInt ∧ (x.1 9).toInt ≤ 1 := h.2.2.1 9 (by decide)
  have c1 : 0 ≤ (x.1 14).toInt ∧ (x.1 14).toInt ≤ 1 := h.2.2.1 14 (by decide)
  have c2 : 0 ≤ (x.1 19).toInt ∧ (x.1 19).toInt ≤ 1 := h.2.2.1 19 (by decide)
  have c3 : 0 ≤ (x.1 24).toInt ∧ (x.1 24).toInt ≤ 1 := h.2.2.1 24 (by decide)
  have c4 : 0 ≤ (x.1 29).toInt ∧ (x.1 29).toInt ≤ 1 := h.2.2.1 29 (by decide)
  have c5 : 0 ≤ (x.1 31).toInt ∧ (x.1 31).toInt ≤ 1 := h.2.2.1 31 (by decide)
  exact ⟨b01 c0.1 c0.2, b01 c1.1 c1.2, b01 c2.1 c2.2, b01 c3.1 c3.2, b01 c4.1 c4.2, b01 c5.1 c5.2⟩
/-- a saved copy says what the state says -/
theorem rx_copy {T : Int} {x : XS} {S : Nat → Int64} (h : RX T x S) (y : XS) : RX T (st_copy x y) S := by
  obtain ⟨a, b, c, ⟨d1, d2, d3, d4⟩, e0, e1, e2⟩ := h
  have cA : ∀ (f g : Nat → Int32) (n j : Nat), j < n → va_cpy f g 0 0 n j = f j := by
    intro f g n j hj; unfold va_cpy; rw [if_pos (by omega)]; congr 1; omega
  have cB : ∀ (f g : Nat → Int64) (n j : Nat), j < n → va_cpy f g 0 0 n j = f j := by
    intro f g n j hj; unfold va_cpy; rw [if_pos (by omega)]; congr 1; omega
  have A0 : ∀ j, j < 6 → (st_copy x y).2.2.1 0 j = x.2.2.1 0 j := fun j hj => cA (x.2.2.1 0) (y.2.2.1 0) 6 j hj
  have A1 : ∀ j, j < 5 → (st_copy x y).2.2.1 1 j = x.2.2.1 1 j := fun j hj => cA (x.2.2.1 1) (y.2.2.1 1) 5 j hj
  have rc : ∀ (b w cap : Nat) (o n : Int32) (g g' : Nat → Int64), rgOk w cap → (∀ j, j < w * cap → g' j = g j) → relR b w cap S o n g → relR b w cap S o n g' := by
    intro b w cap o n g g' hr hg h
    obtain ⟨a, c, h1, h2, h3, h4, h5, h6⟩ := h
    refine ⟨a, c, h1, h2, h3, h4, h5, fun i j hi hj => ?_⟩
    rw [h6 i j hi hj, hg]
    exact (rg_cell hr h3 (by omega) hj).2.1
  refine ⟨a, b, c, ⟨fun j hj => by rw [A0 j hj]; exact d1 j hj, fun j hj => by rw [A0 j hj]; exact d2 j hj, fun j hj => by rw [A1 j hj]; exact d3 j hj, fun j hj => by rw [A1 j hj]; exact d4 j hj⟩, ?_, ?_, ?_⟩
  · exact rc 63 7 24 _ _ _ _ rg0 (fun j hj => cB (x.2.2.2 0) (y.2.2.2 0) 168 j hj) e0
  · exact rc 232 4 5 _ _ _ _ rg1 (fun j hj => cB (x.2.2.2 1) (y.2.2.2 1) 20 j hj) e1
  · exact rc 253 3 30 _ _ _ _ rg2 (fun j hj => cB (x.2.2.2 2) (y.2.2.2 2) 90 j hj) e2
