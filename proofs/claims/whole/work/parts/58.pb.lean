theorem pz_dens (pm : Int32) (pd : Nat → Int32) (S : Nat → Int64) (b c : Int32) (hpm : pm = 0 ∨ pm = 1) (hS1 : S 1 = pm.toInt64) (hS : ∀ j, j < 6 → S (26 + j) = (pd j).toInt64) (hp : ∀ j, j < 6 → 1 ≤ (pd j).toInt ∧ (pd j).toInt ≤ 20000) (hb0 : -10000 ≤ b.toInt) (hb1 : b.toInt ≤ 30000) (hc0 : -1134 ≤ c.toInt) (hc1 : c.toInt ≤ 30000) :
    f_X3_densityAt_r pm pd b c = f_X10_densityAt_r S b.toInt64 c.toInt64 ∧ 0 ≤ (f_X3_densityAt_r pm pd b c).toInt ∧ (f_X3_densityAt_r pm pd b c).toInt ≤ 11000000 := by
  have e1 : (1 : Int32).toInt = 1 := by decide
  have e2731 : (2731 : Int32).toInt = 2731 := by decide
  have e101 : (101 : Int64).toInt = 101 := by decide
  have e2931 : (2931 : Int64).toInt = 2931 := by decide
  unfold f_X3_densityAt_r f_X10_densityAt_r
  rcases hpm with rfl | rfl
  · rw [if_neg (by decide), if_neg (by rw [hS1]; decide)]
    have h := pz_D pd S c hS hp
    exact ⟨h.1, by omega, by omega⟩
  · rw [if_pos rfl, if_pos (show S 1 = 1 from hS1)]
    have hk : (c + 2731).toInt = c.toInt + 2731 := by
      rw [Kit.i32_add (by rw [e2731]; omega) (by rw [e2731]; omega), e2731]
    have hk64 : (c + 2731).toInt64 = c.toInt64 + 2731 := pz_add (by rw [e2731]; omega) (by rw [e2731]; omega)
    have hk64Z : (c.toInt64 + 2731).toInt = c.toInt + 2731 := by rw [← hk64, pz_t, hk]
    have hc : (1 : Int32) < c + 2731 := by rw [Int32.lt_iff_toInt_lt, hk, e1]; omega
    have hcn : ¬ (c.toInt64 + 2731) ≤ 1 := by
      rw [Int64.le_iff_toInt_le, hk64Z]; show ¬ _ ≤ (1 : Int); omega
    have hK : (101 * (c.toInt64 + 2731)).toInt = 101 * (c.toInt + 2731) := by
      rw [Kit.i64_mul (by rw [hk64Z, e101]; omega) (by rw [hk64Z, e101]; omega), hk64Z, e101]
    rw [if_pos hc, hk64, hS 0 (by decide), if_neg hcn, if_neg hcn]
    have hp0 := hp 0 (by decide)
    have key : ∀ v : Int64, 0 ≤ v.toInt → v.toInt ≤ 30000 → f_J9_floorDiv_f86c9_r ((pd 0).toInt64 * v * 2931) (101 * (c.toInt64 + 2731)) = f_X10_floor_r ((pd 0).toInt64 * v * 2931) (101 * (c.toInt64 + 2731)) ∧ 0 ≤ (f_J9_floorDiv_f86c9_r ((pd 0).toInt64 * v * 2931) (101 * (c.toInt64 + 2731))).toInt ∧ (f_J9_floorDiv_f86c9_r ((pd 0).toInt64 * v * 2931) (101 * (c.toInt64 + 2731))).toInt ≤ 11000000 := by
      intro v hv0 hv1
      have hm := pz_mulb (a := (pd 0).toInt) (b := v.toInt) (A := 20000) (B := 30000) (by omega) (by omega) hv0 hv1
      have hm1 : ((pd 0).toInt64 * v).toInt = (pd 0).toInt * v.toInt := by
        rw [Kit.i64_mul (by rw [pz_t]; omega) (by rw [pz_t]; omega), pz_t]
      have hm2 : ((pd 0).toInt64 * v * 2931).toInt = (pd 0).toInt * v.toInt * 2931 := by
        rw [Kit.i64_mul (by rw [hm1, e2931]; omega) (by rw [hm1, e2931]; omega), hm1, e2931]
      refine ⟨(pz_floor (by rw [hK]; omega)).symm, ?_, ?_⟩
      · rw [nu_fd64 (by rw [hK]; omega), hm2, hK]
        exact Int.ediv_nonneg (by omega) (by omega)
      · rw [nu_fd64 (by rw [hK]; omega), hm2, hK]
        exact Int.ediv_le_of_le_mul (by omega) (by omega)
    by_cases cb : 0 < b.toInt
    · have hb : (0 : Int32) < b := by rw [Int32.lt_iff_toInt_lt]; exact cb
      have hbn : ¬ b.toInt64 ≤ 0 := by rw [Int64.le_iff_toInt_le, pz_t]; show ¬ _ ≤ (0 : Int); omega
      rw [if_pos hb, if_neg hbn]
      exact key b.toInt64 (by rw [pz_t]; omega) (by rw [pz_t]; omega)
    · have hb : ¬ (0 : Int32) < b := by rw [Int32.lt_iff_toInt_lt]; exact cb
      have hbn : b.toInt64 ≤ 0 := by rw [Int64.le_iff_toInt_le, pz_t]; show _ ≤ (0 : Int); omega
      rw [if_neg hb, if_pos hbn]
      exact key 0 (by decide) (by decide)
theorem pz_Fseg (pf : Nat → Int32) (S : Nat → Int64) (q : Int64) (hS : ∀ j, j < 5 → S (32 + j) = (pf j).toInt64) (hp : ∀ j, j < 5 → 9000 ≤ (pf j).toInt ∧ (pf j).toInt ≤ 11000)
    (i : Nat) (hi : i < 4) (pl w : Int64) (hw0 : 1000 ≤ w.toInt) (hw1 : w.toInt ≤ 20000) (hpl0 : 0 ≤ pl.toInt) (h1 : pl.toInt ≤ q.toInt) (h2 : q.toInt - pl.toInt ≤ w.toInt) :
    (pf i).toInt64 + (f_J9_floorDiv_f86c9_r (((pf (i + 1)) - (pf i)).toInt64 * (if (q - pl) < (0 : Int64) then (0 : Int64) else (q - pl))) w)
      = ((S (32 + i)) + (f_X10_floor_r (((S (32 + (i + 1))) - (S (32 + i))) * (q - pl)) w))
    ∧ 9000 ≤ ((pf i).toInt64 + (f_J9_floorDiv_f86c9_r (((pf (i + 1)) - (pf i)).toInt64 * (if (q - pl) < (0 : Int64) then (0 : Int64) else (q - pl))) w)).toInt
    ∧ ((pf i).toInt64 + (f_J9_floorDiv_f86c9_r (((pf (i + 1)) - (pf i)).toInt64 * (if (q - pl) < (0 : Int64) then (0 : Int64) else (q - pl))) w)).toInt ≤ 11000 := by
  have hd : (q - pl).toInt = q.toInt - pl.toInt := by
    rw [Kit.i64_sub (by omega) (by omega)]
  have hn : ¬ (q - pl) < (0 : Int64) := by
    rw [Int64.lt_iff_toInt_lt, hd]; show ¬ _ < (0 : Int); omega
  have hpi := hp i (by omega)
  have hpj := hp (i + 1) (by omega)
  have hs : (pf (i + 1) - pf i).toInt64 = (pf (i + 1)).toInt64 - (pf i).toInt64 := pz_sub (by omega) (by omega)
  have hsZ : ((pf (i + 1)).toInt64 - (pf i).toInt64).toInt = (pf (i + 1)).toInt - (pf i).toInt := by
    rw [Kit.i64_sub (by rw [pz_t, pz_t]; omega) (by rw [pz_t, pz_t]; omega), pz_t, pz_t]
  rw [if_neg hn, hS i (by omega), hS (i + 1) (by omega), pz_floor (by omega), hs]
  refine ⟨rfl, ?_⟩
  have hy0 : 0 ≤ q.toInt - pl.toInt := by omega
  have hseg := pz_seg (a := (pf i).toInt) (b := (pf (i + 1)).toInt) (y := q.toInt - pl.toInt) (w := w.toInt) (L := 9000) (H := 11000) (by omega) hy0 h2 (by omega) (by omega) (by omega) (by omega)
  have hmb : -2000 * 20000 ≤ ((pf (i + 1)).toInt - (pf i).toInt) * (q.toInt - pl.toInt) ∧ ((pf (i + 1)).toInt - (pf i).toInt) * (q.toInt - pl.toInt) ≤ 2000 * 20000 := by
    constructor
    · have := Int.mul_le_mul_of_nonneg_right (a := -2000) (b := ((pf (i + 1)).toInt - (pf i).toInt)) (c := (q.toInt - pl.toInt)) (by omega) hy0
      omega
    · have := Int.mul_le_mul_of_nonneg_right (b := 2000) (a := ((pf (i + 1)).toInt - (pf i).toInt)) (c := (q.toInt - pl.toInt)) (by omega) hy0
      omega
  have hm : (((pf (i + 1)).toInt64 - (pf i).toInt64) * (q - pl)).toInt = ((pf (i + 1)).toInt - (pf i).toInt) * (q.toInt - pl.toInt) := by
    rw [Kit.i64_mul (by rw [hsZ, hd]; omega) (by rw [hsZ, hd]; omega), hsZ, hd]
  have hf : (f_J9_floorDiv_f86c9_r (((pf (i + 1)).toInt64 - (pf i).toInt64) * (q - pl)) w).toInt = (((pf (i + 1)).toInt - (pf i).toInt) * (q.toInt - pl.toInt)) / w.toInt := by
    rw [nu_fd64 (by omega), hm]
  rw [Kit.i64_add (by rw [pz_t, hf]; omega) (by rw [pz_t, hf]; omega), pz_t, hf]
  exact hseg
theorem pz_F (pf : Nat → Int32) (S : Nat → Int64) (q : Int64) (hS : ∀ j, j < 5 → S (32 + j) = (pf j).toInt64) (hp : ∀ j, j < 5 → 9000 ≤ (pf j).toInt ∧ (pf j).toInt ≤ 11000) (hq0 : 0 ≤ q.toInt) :
    f_X3_interpolated_F_r pf q = f_X10_factorAt_r S q ∧ 9000 ≤ (f_X3_interpolated_F_r pf q).toInt ∧ (f_X3_interpolated_F_r pf q).toInt ≤ 11000 := by
  have l1 : (1000 : Int64) ≤ q ↔ 1000 ≤ q.toInt := by rw [Int64.le_iff_toInt_le]; exact Iff.rfl
  have l3 : (3000 : Int64) ≤ q ↔ 3000 ≤ q.toInt := by rw [Int64.le_iff_toInt_le]; exact Iff.rfl
  have l10 : (10000 : Int64) ≤ q ↔ 10000 ≤ q.toInt := by rw [Int64.le_iff_toInt_le]; exact Iff.rfl
  have l30 : (30000 : Int64) ≤ q ↔ 30000 ≤ q.toInt := by rw [Int64.le_iff_toInt_le]; exact Iff.rfl
  have m30 : q < (30000 : Int64) ↔ q.toInt < 30000 := by rw [Int64.lt_iff_toInt_lt]; exact Iff.rfl
  have e0 : (0 : Int64).toInt = 0 := by decide
  have e1 : (1000 : Int64).toInt = 1000 := by decide
  have e3 : (3000 : Int64).toInt = 3000 := by decide
  have e10 : (10000 : Int64).toInt = 10000 := by decide
  have e2 : (2000 : Int64).toInt = 2000 := by decide
  have e7 : (7000 : Int64).toInt = 7000 := by decide
  have e20 : (20000 : Int64).toInt = 20000 := by decide
  unfold f_X3_interpolated_F_r f_X10_factorAt_r
  by_cases c1 : 1000 ≤ q.toInt
  · rw [if_pos (l1.mpr c1)]
    by_cases c3 : 3000 ≤ q.toInt
    · rw [if_pos (l3.mpr c3)]
      by_cases c10 : 10000 ≤ q.toInt
      · rw [if_pos (l10.mpr c10)]
        by_cases c30 : 30000 ≤ q.toInt
        · rw [if_pos (l30.mpr c30), if_neg (fun z => by have := m30.mp z; omega)]
          have := hp 4 (by decide)
          exact ⟨(hS 4 (by decide)).symm, by rw [pz_t]; omega, by rw [pz_t]; omega⟩
        · rw [if_neg (fun z => c30 (l30.mp z)), if_pos (m30.mpr (by omega)), if_pos (l10.mpr c10)]
          exact pz_Fseg pf S q hS hp 3 (by decide) 10000 20000 (by omega) (by omega) (by omega) (by omega) (by omega)
      · rw [if_neg (fun z => c10 (l10.mp z)), if_pos (m30.mpr (by omega)), if_neg (fun z => c10 (l10.mp z)), if_pos (l3.mpr c3)]
        exact pz_Fseg pf S q hS hp 2 (by decide) 3000 7000 (by omega) (by omega) (by omega) (by omega) (by omega)
    · rw [if_neg (fun z => c3 (l3.mp z)), if_pos (m30.mpr (by omega)), if_neg (show ¬ (10000 : Int64) ≤ q from fun z => by have := l10.mp z; omega), if_neg (fun z => c3 (l3.mp z)), if_pos (l1.mpr c1)]
      exact pz_Fseg pf S q hS hp 1 (by decide) 1000 2000 (by omega) (by omega) (by omega) (by omega) (by omega)
  · rw [if_neg (fun z => c1 (l1.mp z)), if_pos (m30.mpr (by omega)), if_neg (show ¬ (10000 : Int64) ≤ q from fun z => by have := l10.mp z; omega), if_neg (show ¬ (3000 : Int64) ≤ q from fun z => by have := l3.mp z; omega), if_neg (fun z => c1 (l1.mp z))]
    exact pz_Fseg pf S q hS hp 0 (by decide) 0 1000 (by omega) (by omega) (by omega) (by omega) (by omega)
/-- the pressure's product: the square root's argument -/
theorem pz_arg (a : Int32) (dn : Int64) (ha0 : 0 ≤ a.toInt) (ha1 : a.toInt ≤ 30000) (hd0 : 0 ≤ dn.toInt) (hd1 : dn.toInt ≤ 11000000) :
    0 ≤ ((100 * a.toInt64) * dn).toInt ∧ ((100 * a.toInt64) * dn).toInt < 70368744177664 := by
  have e : (100 : Int64).toInt = 100 := by decide
  have h1 : (100 * a.toInt64).toInt = 100 * a.toInt := by
    rw [Kit.i64_mul (by rw [pz_t, e]; omega) (by rw [pz_t, e]; omega), pz_t, e]
  have hm := pz_mulb (a := 100 * a.toInt) (b := dn.toInt) (A := 3000000) (B := 11000000) (by omega) (by omega) hd0 hd1
  rw [Kit.i64_mul (by rw [h1]; omega) (by rw [h1]; omega), h1]
  omega
/-- the last product: the flow by the factor -/
theorem pz_last (pf : Nat → Int32) (S : Nat → Int64) (u : Int64) (hS : ∀ j, j < 5 → S (32 + j) = (pf j).toInt64) (hp : ∀ j, j < 5 → 9000 ≤ (pf j).toInt ∧ (pf j).toInt ≤ 11000) (h0 : 0 ≤ u.toInt) (h1 : u.toInt ≤ 83886070) :
    f_J9_floorDiv_f86c9_r (u * f_X3_interpolated_F_r pf u) 10000 = (u * f_X10_factorAt_r S u) / 10000 ∧ 0 ≤ (f_J9_floorDiv_f86c9_r (u * f_X3_interpolated_F_r pf u) 10000).toInt ∧ (f_J9_floorDiv_f86c9_r (u * f_X3_interpolated_F_r pf u) 10000).toInt ≤ 100000000 := by
  have hF := pz_F pf S u hS hp h0
  have e : (10000 : Int64).toInt = 10000 := by decide
  have hm := pz_mulb (a := u.toInt) (b := (f_X3_interpolated_F_r pf u).toInt) (A := 83886070) (B := 11000) h0 h1 (by omega) (by omega)
  have hmZ : (u * f_X3_interpolated_F_r pf u).toInt = u.toInt * (f_X3_interpolated_F_r pf u).toInt := Kit.i64_mul (by omega) (by omega)
  rw [← hF.1]
  refine ⟨pz_div (by rw [hmZ]; omega) (by decide), ?_, ?_⟩
  · rw [nu_fd64 (by decide), hmZ, e]; omega
  · rw [nu_fd64 (by decide), hmZ, e]; omega
theorem pz_exp (a b : Int32) (ha0 : 0 ≤ a.toInt) (ha1 : a.toInt ≤ 30000) (hb1 : b.toInt ≤ 30000) :
    (f_X3_expansion_r a b).toInt64 = (if b.toInt64 ≤ 1 then (if (1000 - ((300 * a.toInt64) / 100)) ≤ 700 then 700 else (1000 - ((300 * a.toInt64) / 100))) else (if (1000 - ((300 * a.toInt64) / (100 * b.toInt64))) ≤ 700 then 700 else (1000 - ((300 * a.toInt64) / (100 * b.toInt64)))))
    ∧ 700 ≤ (f_X3_expansion_r a b).toInt ∧ (f_X3_expansion_r a b).toInt ≤ 1000 := by
  have e300 : (300 : Int32).toInt = 300 := by decide
  have e100 : (100 : Int32).toInt = 100 := by decide
  have e1000 : (1000 : Int32).toInt = 1000 := by decide
  have e700 : (700 : Int32).toInt = 700 := by decide
  have key : ∀ v : Int32, 1 ≤ v.toInt → v.toInt ≤ 30000 →
      (if (700 : Int32) < (1000 - (f_J9_floorDiv_7cf53_r (300 * a) (100 * v))) then (1000 - (f_J9_floorDiv_7cf53_r (300 * a) (100 * v))) else (700 : Int32)).toInt64 = (if (1000 - ((300 * a.toInt64) / (100 * v.toInt64))) ≤ 700 then 700 else (1000 - ((300 * a.toInt64) / (100 * v.toInt64))))
      ∧ 700 ≤ (if (700 : Int32) < (1000 - (f_J9_floorDiv_7cf53_r (300 * a) (100 * v))) then (1000 - (f_J9_floorDiv_7cf53_r (300 * a) (100 * v))) else (700 : Int32)).toInt
      ∧ (if (700 : Int32) < (1000 - (f_J9_floorDiv_7cf53_r (300 * a) (100 * v))) then (1000 - (f_J9_floorDiv_7cf53_r (300 * a) (100 * v))) else (700 : Int32)).toInt ≤ 1000 := by
    intro v h1 h2
    have m1 : (300 * a).toInt = 300 * a.toInt := by rw [Kit.i32_mul (by rw [e300]; omega) (by rw [e300]; omega), e300]
    have m2 : (100 * v).toInt = 100 * v.toInt := by rw [Kit.i32_mul (by rw [e100]; omega) (by rw [e100]; omega), e100]
    have m3 : (300 * a).toInt64 = 300 * a.toInt64 := pz_mul (by rw [e300]; omega) (by rw [e300]; omega)
    have m4 : (100 * v).toInt64 = 100 * v.toInt64 := pz_mul (by rw [e100]; omega) (by rw [e100]; omega)
    have d1 : (f_J9_floorDiv_7cf53_r (300 * a) (100 * v)).toInt = (300 * a.toInt) / (100 * v.toInt) := by rw [nu_fd32 (by omega), m1, m2]
    have d0 : 0 ≤ (300 * a.toInt) / (100 * v.toInt) := Int.ediv_nonneg (by omega) (by omega)
    have d2 : (300 * a.toInt) / (100 * v.toInt) ≤ 9000000 := Int.le_trans (Int.ediv_le_self _ (by omega)) (by omega)
    have d3 : (f_J9_floorDiv_7cf53_r (300 * a) (100 * v)).toInt64 = (300 * a.toInt64) / (100 * v.toInt64) := by
      rw [pz_fd (by omega), m3, m4, pz_div (by rw [← m3, pz_t]; omega) (by rw [← m4, pz_t]; omega)]
    have s1 : (1000 - (f_J9_floorDiv_7cf53_r (300 * a) (100 * v))).toInt = 1000 - (300 * a.toInt) / (100 * v.toInt) := by
      rw [Kit.i32_sub (by rw [e1000, d1]; omega) (by rw [e1000, d1]; omega), e1000, d1]
    have s2 : (1000 - (f_J9_floorDiv_7cf53_r (300 * a) (100 * v))).toInt64 = 1000 - (300 * a.toInt64) / (100 * v.toInt64) := by
      rw [pz_sub (by rw [e1000, d1]; omega) (by rw [e1000, d1]; omega), d3]; rfl
    have hle : (1000 - (300 * a.toInt64) / (100 * v.toInt64)) ≤ 700 ↔ ¬ (700 : Int32) < (1000 - (f_J9_floorDiv_7cf53_r (300 * a) (100 * v))) := by
      rw [← s2, Int64.le_iff_toInt_le, Int32.lt_iff_toInt_lt, pz_t]
      rw [show (700 : Int64).toInt = 700 from by decide, e700]; omega
    by_cases c : (700 : Int32) < (1000 - (f_J9_floorDiv_7cf53_r (300 * a) (100 * v)))
    · rw [if_pos c, if_neg (fun z => hle.mp z c)]
      refine ⟨s2, ?_, ?_⟩
      · rw [Int32.lt_iff_toInt_lt, e700] at c; omega
      · rw [s1]; omega
    · rw [if_neg c, if_pos (hle.mpr c)]
      exact ⟨rfl, by decide, by decide⟩
  unfold f_X3_expansion_r
  by_cases cb : 1 < b.toInt
  · have hb : (1 : Int32) < b := by rw [Int32.lt_iff_toInt_lt]; exact cb
    have hbn : ¬ b.toInt64 ≤ 1 := by rw [Int64.le_iff_toInt_le, pz_t]; show ¬ _ ≤ (1 : Int); omega
    rw [if_pos hb, if_neg hbn]
    exact key b (by omega) (by omega)
  · have hb : ¬ (1 : Int32) < b := by rw [Int32.lt_iff_toInt_lt]; exact cb
    have hbn : b.toInt64 ≤ 1 := by rw [Int64.le_iff_toInt_le, pz_t]; show _ ≤ (1 : Int); omega
    rw [if_neg hb, if_pos hbn]
    exact key 1 (by decide) (by decide)
theorem pz_flow (pm pk : Int32) (pd pf : Nat → Int32) (S : Nat → Int64) (a b c : Int32) (hpm : pm = 0 ∨ pm = 1) (hS1 : S 1 = pm.toInt64) (hS2 : S 2 = pk.toInt64)
    (hS : ∀ j, j < 6 → S (26 + j) = (pd j).toInt64) (hp : ∀ j, j < 6 → 1 ≤ (pd j).toInt ∧ (pd j).toInt ≤ 20000)
    (hT : ∀ j, j < 5 → S (32 + j) = (pf j).toInt64) (hf : ∀ j, j < 5 → 9000 ≤ (pf j).toInt ∧ (pf j).toInt ≤ 11000)
    (hk0 : 0 ≤ pk.toInt) (hk1 : pk.toInt ≤ 100000) (ha0 : 0 ≤ a.toInt) (ha1 : a.toInt ≤ 30000)
    (hb0 : -10000 ≤ b.toInt) (hb1 : b.toInt ≤ 30000) (hc0 : -1134 ≤ c.toInt) (hc1 : c.toInt ≤ 30000) :
    f_X3_flowAt_r pm pk pf a b (f_X3_densityAt_r pm pd b c) = f_X10_flowBy_r S a.toInt64 b.toInt64 c.toInt64
    ∧ 0 ≤ (f_X3_flowAt_r pm pk pf a b (f_X3_densityAt_r pm pd b c)).toInt ∧ (f_X3_flowAt_r pm pk pf a b (f_X3_densityAt_r pm pd b c)).toInt ≤ 100000000 := by
  obtain ⟨hd, hd0, hd1⟩ := pz_dens pm pd S b c hpm hS1 hS hp hb0 hb1 hc0 hc1
  obtain ⟨dn, hdn⟩ : ∃ z, z = f_X3_densityAt_r pm pd b c := ⟨_, rfl⟩
  rw [← hdn] at hd hd0 hd1 ⊢
  have hr := pz_arg a dn ha0 ha1 hd0 hd1
  have hq := pz_isq hr.1 hr.2
  have e4 : (10000 : Int64).toInt = 10000 := by decide
  have e3 : (1000 : Int64).toInt = 1000 := by decide
  unfold f_X3_flowAt_r f_X10_flowBy_r
  rw [← hd, hS1, hS2]
  obtain ⟨q, hqe⟩ : ∃ z, z = isq ((100 * a.toInt64) * dn) := ⟨_, rfl⟩
  rw [← hqe] at hq ⊢
  have hm := pz_mulb (a := pk.toInt) (b := q.toInt) (A := 100000) (B := 8388607) hk0 hk1 hq.1 hq.2
  have hmZ : (pk.toInt64 * q).toInt = pk.toInt * q.toInt := by
    rw [Kit.i64_mul (by rw [pz_t]; omega) (by rw [pz_t]; omega), pz_t]
  have hu : f_J9_floorDiv_f86c9_r (pk.toInt64 * q) 10000 = pk.toInt64 * q / 10000 := pz_div (by rw [hmZ]; omega) (by decide)
  have huZ : (pk.toInt64 * q / 10000).toInt = (pk.toInt * q.toInt) / 10000 := by rw [pz_divZ (by rw [hmZ]; omega) (by decide), hmZ, e4]
  rw [hu]
  obtain ⟨u, hue⟩ : ∃ z, z = pk.toInt64 * q / 10000 := ⟨_, rfl⟩
  rw [← hue] at huZ ⊢
  have hu0 : 0 ≤ u.toInt := by rw [huZ]; omega
  have hu1 : u.toInt ≤ 83886070 := by rw [huZ]; omega
  rcases hpm with rfl | rfl
  · rw [if_neg (by decide), if_neg (by decide)]
    exact pz_last pf S u hT hf hu0 hu1
  · rw [if_pos rfl, if_pos (show Int32.toInt64 1 = 1 from rfl)]
    obtain ⟨hy, hy0, hy1⟩ := pz_exp a b ha0 ha1 hb1
    obtain ⟨y, hye⟩ : ∃ z, z = f_X3_expansion_r a b := ⟨_, rfl⟩
    rw [← hye] at hy hy0 hy1 ⊢
    have hn := pz_mulb (a := u.toInt) (b := y.toInt) (A := 83886070) (B := 1000) hu0 hu1 (by omega) hy1
    have hnZ : (u * y.toInt64).toInt = u.toInt * y.toInt := by
      rw [Kit.i64_mul (by rw [pz_t]; omega) (by rw [pz_t]; omega), pz_t]
    have hw : f_J9_floorDiv_f86c9_r (u * y.toInt64) 1000 = u * y.toInt64 / 1000 := pz_div (by rw [hnZ]; omega) (by decide)
    have hwZ : (u * y.toInt64 / 1000).toInt = (u.toInt * y.toInt) / 1000 := by rw [pz_divZ (by rw [hnZ]; omega) (by decide), hnZ, e3]
    have hL := pz_last pf S (u * y.toInt64 / 1000) hT hf (by rw [hwZ]; omega) (by rw [hwZ]; omega)
    rw [hw]
    refine ⟨hL.1.trans ?_, hL.2⟩
    rw [hy]
    by_cases c1 : b.toInt64 ≤ 1
    · simp only [if_pos c1]
      by_cases c2 : 1000 - 300 * a.toInt64 / 100 ≤ 700
      · simp only [if_pos c2]
      · simp only [if_neg c2]
    · simp only [if_neg c1]
      by_cases c2 : 1000 - 300 * a.toInt64 / (100 * b.toInt64) ≤ 700
      · simp only [if_pos c2]
      · simp only [if_neg c2]
/-- a reading -/
theorem pz_reading (to ts tr : Int32) (ho0 : -500 ≤ to.toInt) (ho1 : to.toInt ≤ 0) (hs0 : 100 ≤ ts.toInt) (hs1 : ts.toInt ≤ 30000) (hr0 : 0 ≤ tr.toInt) (hr1 : tr.toInt ≤ 65535) :
    (f_X8_reading_r to ts tr).toInt64 = to.toInt64 + f_X10_floor_r (ts.toInt64 * (tr.toInt64 - 13107)) 52428
    ∧ (f_X8_reading_r to ts tr).toInt = to.toInt + (ts.toInt * (tr.toInt - 13107)) / 52428
    ∧ -8000 ≤ (f_X8_reading_r to ts tr).toInt ∧ (f_X8_reading_r to ts tr).toInt ≤ to.toInt + 30000
    ∧ (12000 ≤ tr.toInt → to.toInt - 634 ≤ (f_X8_reading_r to ts tr).toInt) := by
  have e1 : (13107 : Int32).toInt = 13107 := by decide
  have e2 : (52428 : Int32).toInt = 52428 := by decide
  have s1 : (tr - 13107).toInt = tr.toInt - 13107 := by rw [Kit.i32_sub (by rw [e1]; omega) (by rw [e1]; omega), e1]
  have s2 : (tr - 13107).toInt64 = tr.toInt64 - 13107 := pz_sub (by rw [e1]; omega) (by rw [e1]; omega)
  have m0 : ts.toInt * (tr.toInt - 13107) = ts.toInt * tr.toInt - 13107 * ts.toInt := by rw [Int.mul_sub, Int.mul_comm ts.toInt 13107]
  have m1 := pz_mulb (a := ts.toInt) (b := tr.toInt) (A := 30000) (B := 65535) (by omega) hs1 hr0 hr1
  have m2 : ts.toInt * tr.toInt ≤ ts.toInt * 65535 := Int.mul_le_mul_of_nonneg_left hr1 (by omega)
  have m3 : (ts * (tr - 13107)).toInt = ts.toInt * (tr.toInt - 13107) := by
    rw [Kit.i32_mul (by rw [s1, m0]; omega) (by rw [s1, m0]; omega), s1]
  have m4 : (ts * (tr - 13107)).toInt64 = ts.toInt64 * (tr.toInt64 - 13107) := by
    rw [pz_mul (by rw [s1, m0]; omega) (by rw [s1, m0]; omega), s2]
  have d1 : (f_J9_floorDiv_7cf53_r (ts * (tr - 13107)) 52428).toInt = (ts.toInt * (tr.toInt - 13107)) / 52428 := by rw [nu_fd32 (by decide), m3, e2]
  have b0 : -7501 ≤ (ts.toInt * (tr.toInt - 13107)) / 52428 := by rw [m0]; omega
  have b1 : (ts.toInt * (tr.toInt - 13107)) / 52428 ≤ 30000 := by rw [m0]; omega
  have a1 : (f_X8_reading_r to ts tr).toInt = to.toInt + (ts.toInt * (tr.toInt - 13107)) / 52428 := by
    unfold f_X8_reading_r
    rw [Kit.i32_add (by rw [d1]; omega) (by rw [d1]; omega), d1]
  refine ⟨?_, a1, by omega, by omega, ?_⟩
  · unfold f_X8_reading_r
    rw [pz_add (by rw [d1]; omega) (by rw [d1]; omega), pz_fd (by decide), m4, pz_floor (by decide)]
    rfl
  · intro h12
    have m5 : ts.toInt * 12000 ≤ ts.toInt * tr.toInt := Int.mul_le_mul_of_nonneg_left h12 (by omega)
    have : -634 ≤ (ts.toInt * (tr.toInt - 13107)) / 52428 := by rw [m0]; omega
    omega
theorem pz_faulty (tr : Int32) (S : Nat → Int64) (k : Nat) (h : S (14 + k) = tr.toInt64) : f_X10_isFaulty_r S k = f_X8_isFaulty_r tr := by
  unfold f_X10_isFaulty_r f_X8_isFaulty_r
  have e : (12000 : Int64) ≤ S (14 + k) ↔ (12000 : Int32) ≤ tr := by
    rw [h, show (12000 : Int64) = (12000 : Int32).toInt64 from rfl, pz_le]
  by_cases c : (12000 : Int32) ≤ tr
  · rw [if_pos c, if_pos (e.mpr c)]
  · rw [if_neg c, if_neg (fun z => c (e.mp z))]
theorem pz_faulty01 (tr : Int32) : f_X8_isFaulty_r tr = 0 ∨ f_X8_isFaulty_r tr = 1 := by
  unfold f_X8_isFaulty_r; split
  · exact Or.inl rfl
  · exact Or.inr rfl
/-- the damping's divisor -/
theorem pz_shift (d : Int32) (h0 : 0 ≤ d.toInt) (h1 : d.toInt ≤ 8) : 1 ≤ ((1 : Int32) <<< (d &&& 31)).toInt ∧ ((1 : Int32) <<< (d &&& 31)).toInt ≤ 256 ∧ ((1 : Int32) <<< (d &&& 31)).toInt64 = (1 : Int64) <<< ((d.toInt64.toInt32 : Int32).toInt64 &&& 63) := by
  rw [pz_back]
  have : ∃ n : Nat, n ≤ 8 ∧ d = Int32.ofNat n := ⟨d.toInt.toNat, by omega, by
    apply Int32.toInt_inj.mp
    rw [Int32.toInt_ofNat_of_lt (by omega)]; omega⟩
  obtain ⟨n, hn, rfl⟩ := this
  have : ∀ n, n < 9 → 1 ≤ ((1 : Int32) <<< (Int32.ofNat n &&& 31)).toInt ∧ ((1 : Int32) <<< (Int32.ofNat n &&& 31)).toInt ≤ 256 ∧ ((1 : Int32) <<< (Int32.ofNat n &&& 31)).toInt64 = (1 : Int64) <<< ((Int32.ofNat n).toInt64 &&& 63) := by decide
  exact this n (by omega)
/-- the filter's step: between the old value and the reading -/
theorem pz_mid {f r w : Int} (hw : 1 ≤ w) {L H : Int} (h1 : L ≤ f) (h2 : f ≤ H) (h3 : L ≤ r) (h4 : r ≤ H) : L ≤ f + (r - f) / w ∧ f + (r - f) / w ≤ H := by
  by_cases c : f ≤ r
  · have k0 : 0 ≤ (r - f) / w := Int.ediv_nonneg (by omega) (by omega)
    have k1 : (r - f) / w ≤ r - f := Int.ediv_le_self _ (by omega)
    omega
  · have k0 : (r - f) / w ≤ 0 := by
      have := Int.ediv_le_ediv (a := r - f) (b := 0) (c := w) (by omega) (by omega)
      simpa using this
    have k1 : r - f ≤ (r - f) / w := by
      apply Int.le_ediv_of_mul_le (by omega)
      have := Int.mul_le_mul_of_nonpos_left (a := r - f) (b := w) (c := 1) (by omega) hw
      omega
    omega
theorem pz_filter (to ts td tr tf : Int32) (ho0 : -500 ≤ to.toInt) (ho1 : to.toInt ≤ 0) (hs0 : 100 ≤ ts.toInt) (hs1 : ts.toInt ≤ 30000) (hr0 : 12000 ≤ tr.toInt) (hr1 : tr.toInt ≤ 65535)
    (hd0 : 0 ≤ td.toInt) (hd1 : td.toInt ≤ 8) (hf0 : to.toInt - 634 ≤ tf.toInt) (hf1 : tf.toInt ≤ to.toInt + 30000) :
    (f_X8_filter_o0_4 to ts td tr tf).toInt64 = tf.toInt64 + f_X10_floor_r ((to.toInt64 + f_X10_floor_r (ts.toInt64 * (tr.toInt64 - 13107)) 52428) - tf.toInt64) (1 <<< ((td.toInt64.toInt32 : Int32).toInt64 &&& 63))
    ∧ to.toInt - 634 ≤ (f_X8_filter_o0_4 to ts td tr tf).toInt ∧ (f_X8_filter_o0_4 to ts td tr tf).toInt ≤ to.toInt + 30000 := by
  obtain ⟨r1, r2, r3, r4, r5⟩ := pz_reading to ts tr ho0 ho1 hs0 hs1 (by omega) hr1
  have r6 := r5 hr0
  obtain ⟨w0, w1, w2⟩ := pz_shift td hd0 hd1
  rw [← r1, ← w2]
  unfold f_X8_filter_o0_4
  obtain ⟨r, hre⟩ : ∃ z, z = f_X8_reading_r to ts tr := ⟨_, rfl⟩
  rw [← hre] at r4 r6 ⊢
  obtain ⟨w, hwe⟩ : ∃ z : Int32, z = (1 : Int32) <<< (td &&& 31) := ⟨_, rfl⟩
  rw [← hwe] at w0 w1 ⊢
  have s1 : (r - tf).toInt = r.toInt - tf.toInt := Kit.i32_sub (by omega) (by omega)
  have s2 : (r - tf).toInt64 = r.toInt64 - tf.toInt64 := pz_sub (by omega) (by omega)
  have d1 : (f_J9_floorDiv_7cf53_r (r - tf) w).toInt = (r.toInt - tf.toInt) / w.toInt := by rw [nu_fd32 (by omega), s1]
  have hm := pz_mid (f := tf.toInt) (r := r.toInt) (w := w.toInt) w0 (L := to.toInt - 634) (H := to.toInt + 30000) hf0 hf1 r6 r4
  have a1 : (tf + f_J9_floorDiv_7cf53_r (r - tf) w).toInt = tf.toInt + (r.toInt - tf.toInt) / w.toInt := by
    rw [Kit.i32_add (by rw [d1]; omega) (by rw [d1]; omega), d1]
  refine ⟨?_, by rw [a1]; exact hm.1, by rw [a1]; exact hm.2⟩
  rw [pz_add (by rw [d1]; omega) (by rw [d1]; omega), pz_fd (by omega), s2, pz_floor (by rw [pz_t]; omega)]
