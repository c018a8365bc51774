theorem pz_ext {a b : Int64} (h : a.toInt = b.toInt) : a = b := Int64.toInt_inj.mp h
theorem pz_t (x : Int32) : x.toInt64.toInt = x.toInt := Int32.toInt_toInt64 x
theorem pz_add {x y : Int32} (h1 : -2147483648 ≤ x.toInt + y.toInt) (h2 : x.toInt + y.toInt < 2147483648) : (x + y).toInt64 = x.toInt64 + y.toInt64 := by
  apply pz_ext
  rw [pz_t, Kit.i32_add (by simpa using h1) (by simpa using h2), Kit.i64_add (by rw [pz_t, pz_t]; omega) (by rw [pz_t, pz_t]; omega), pz_t, pz_t]
theorem pz_sub {x y : Int32} (h1 : -2147483648 ≤ x.toInt - y.toInt) (h2 : x.toInt - y.toInt < 2147483648) : (x - y).toInt64 = x.toInt64 - y.toInt64 := by
  apply pz_ext
  rw [pz_t, Kit.i32_sub (by simpa using h1) (by simpa using h2), Kit.i64_sub (by rw [pz_t, pz_t]; omega) (by rw [pz_t, pz_t]; omega), pz_t, pz_t]
theorem pz_mul {x y : Int32} (h1 : -2147483648 ≤ x.toInt * y.toInt) (h2 : x.toInt * y.toInt < 2147483648) : (x * y).toInt64 = x.toInt64 * y.toInt64 := by
  apply pz_ext
  rw [pz_t, Kit.i32_mul (by simpa using h1) (by simpa using h2), Kit.i64_mul (by rw [pz_t, pz_t]; omega) (by rw [pz_t, pz_t]; omega), pz_t, pz_t]
theorem pz_inj {x y : Int32} : x.toInt64 = y.toInt64 ↔ x = y := ⟨fun h => Int32.toInt_inj.mp (by rw [← pz_t, ← pz_t, h]), fun h => by rw [h]⟩
theorem pz_lt {x y : Int32} : x.toInt64 < y.toInt64 ↔ x < y := by rw [Int64.lt_iff_toInt_lt, Int32.lt_iff_toInt_lt, pz_t, pz_t]
theorem pz_le {x y : Int32} : x.toInt64 ≤ y.toInt64 ↔ x ≤ y := by rw [Int64.le_iff_toInt_le, Int32.le_iff_toInt_le, pz_t, pz_t]
theorem pz_back (x : Int32) : x.toInt64.toInt32 = x := by
  apply Int32.toInt_inj.mp
  rw [Int64.toInt_toInt32, pz_t]
  exact Int.bmod_eq_of_le (by have := x.le_toInt; omega) (by have := x.toInt_lt; omega)
theorem pz_fd {x y : Int32} (hy : 0 < y.toInt) : (f_J9_floorDiv_7cf53_r x y).toInt64 = f_J9_floorDiv_f86c9_r x.toInt64 y.toInt64 := by
  apply pz_ext
  rw [pz_t, nu_fd32 hy, nu_fd64 (by rw [pz_t]; exact hy), pz_t, pz_t]
theorem pz_floor {a b : Int64} (hb : 0 < b.toInt) : f_X10_floor_r a b = f_J9_floorDiv_f86c9_r a b := by
  have hb0 : (0 : Int64) ≤ b := by rw [Int64.le_iff_toInt_le]; exact Int.le_of_lt hb
  have hx := nu_xor64 (x := a) (y := b) (Int.le_of_lt hb)
  unfold f_X10_floor_r f_J9_floorDiv_f86c9_r
  by_cases h : 0 ≤ a.toInt
  · rw [if_pos (hx.mpr h)]
    have h' : (0 : Int64) ≤ a := by rw [Int64.le_iff_toInt_le]; exact h
    rw [if_pos h', if_pos hb0]
    split <;> rfl
  · rw [if_neg (fun z => h (hx.mp z))]
    have h' : ¬ (0 : Int64) ≤ a := by rw [Int64.le_iff_toInt_le]; exact h
    rw [if_neg h', if_pos hb0]
    by_cases e : a / b * b = a
    · rw [if_pos e, if_pos (by rw [e]; exact Int64.sub_self a)]
    · rw [if_neg e, if_neg (fun z => e (by rw [Int64.sub_eq_iff_eq_add, Int64.zero_add] at z; exact z.symm))]
theorem pz_div {a b : Int64} (ha : 0 ≤ a.toInt) (hb : 0 < b.toInt) : f_J9_floorDiv_f86c9_r a b = a / b := by
  unfold f_J9_floorDiv_f86c9_r
  rw [if_pos ((nu_xor64 (Int.le_of_lt hb)).mpr ha)]
theorem pz_divZ {a b : Int64} (ha : 0 ≤ a.toInt) (hb : 0 < b.toInt) : (a / b).toInt = a.toInt / b.toInt := by
  rw [← pz_div ha hb, nu_fd64 hb]
theorem pz_mulb {a b A B : Int} (h0 : 0 ≤ a) (h1 : a ≤ A) (h2 : 0 ≤ b) (h3 : b ≤ B) : 0 ≤ a * b ∧ a * b ≤ A * B :=
  ⟨Int.mul_nonneg h0 h2, Int.mul_le_mul h1 h3 h2 (by omega)⟩
theorem pz_seg {a b y w L H : Int} (hw : 0 < w) (h0 : 0 ≤ y) (h1 : y ≤ w) (ha : L ≤ a) (ha' : a ≤ H) (hb : L ≤ b) (hb' : b ≤ H) : L ≤ a + ((b - a) * y) / w ∧ a + ((b - a) * y) / w ≤ H := by
  by_cases c : a ≤ b
  · have k1 : 0 ≤ (b - a) * y := Int.mul_nonneg (by omega) h0
    have k2 : (b - a) * y ≤ (b - a) * w := Int.mul_le_mul_of_nonneg_left h1 (by omega)
    have k3 : 0 ≤ ((b - a) * y) / w := Int.ediv_nonneg k1 (by omega)
    have k4 : ((b - a) * y) / w ≤ (b - a) := by
      have := Int.ediv_le_ediv hw k2
      rwa [Int.mul_ediv_cancel _ (by omega)] at this
    omega
  · have k1 : (b - a) * y ≤ 0 := Int.mul_nonpos_of_nonpos_of_nonneg (by omega) h0
    have k2 : (b - a) * w ≤ (b - a) * y := Int.mul_le_mul_of_nonpos_left (by omega) h1
    have k3 : ((b - a) * y) / w ≤ 0 := by
      have := Int.ediv_le_ediv hw k1
      simpa using this
    have k4 : (b - a) ≤ ((b - a) * y) / w := by
      have := Int.ediv_le_ediv hw k2
      rwa [Int.mul_ediv_cancel _ (by omega)] at this
    omega
/-- a square root of every number from 0 on -/
theorem pz_rootN (n : Nat) : ∃ r : Nat, r * r ≤ n ∧ n < (r + 1) * (r + 1) := by
  induction n with
  | zero => exact ⟨0, by decide, by decide⟩
  | succ n ih =>
    obtain ⟨r, h1, h2⟩ := ih
    by_cases c : n + 1 < (r + 1) * (r + 1)
    · exact ⟨r, by omega, c⟩
    · refine ⟨r + 1, by omega, ?_⟩
      have : (r + 1 + 1) * (r + 1 + 1) = (r + 1) * (r + 1) + 2 * (r + 1) + 1 := by simp only [Nat.add_mul, Nat.mul_add]; omega
      omega
theorem pz_isq {v : Int64} (h0 : 0 ≤ v.toInt) (h1 : v.toInt < 70368744177664) : 0 ≤ (isq v).toInt ∧ (isq v).toInt ≤ 8388607 := by
  obtain ⟨r, k1, k2⟩ := pz_rootN v.toInt.toNat
  have hr : r ≤ 8388607 := by
    apply Nat.le_of_not_lt
    intro z
    have := Nat.mul_le_mul (Nat.succ_le_of_lt z) (Nat.succ_le_of_lt z)
    omega
  have hq : (Int64.ofNat r).toInt = (r : Int) := Int64.toInt_ofNat_of_lt (by omega)
  have hs : sqr v (Int64.ofNat r) := by
    refine ⟨by rw [hq]; omega, ?_, ?_⟩
    · rw [hq]
      have : ((r * r : Nat) : Int) ≤ (v.toInt.toNat : Int) := Int.ofNat_le.mpr k1
      rw [Int.natCast_mul] at this
      omega
    · rw [hq]
      have : (v.toInt.toNat : Int) < (((r + 1) * (r + 1) : Nat) : Int) := Int.ofNat_lt.mpr k2
      rw [Int.natCast_mul, Int.natCast_add] at this
      have e : ((1 : Nat) : Int) = 1 := rfl
      rw [e] at this
      omega
  rw [← isq_eq hs, hq]
  omega
theorem pz_dixq (t : Int32) (i : Int) (h0 : 0 ≤ i) (h3 : i ≤ 4) (h1 : -200 + 200 * i ≤ t.toInt) (h2 : t.toInt < 200 * i) : ((t.toInt64 + 200) / 200) = Int64.ofInt i := by
  have e200 : (200 : Int64).toInt = 200 := by decide
  have ha : (t.toInt64 + 200).toInt = t.toInt + 200 := by
    rw [Kit.i64_add (by rw [pz_t, e200]; omega) (by rw [pz_t, e200]; omega), pz_t, e200]
  apply pz_ext
  rw [pz_divZ (by rw [ha]; omega) (by decide), ha, e200, Int64.toInt_ofInt_of_le (by omega) (by omega)]
  omega
theorem pz_Dseg (pd : Nat → Int32) (S : Nat → Int64) (t : Int32) (hS : ∀ j, j < 6 → S (26 + j) = (pd j).toInt64) (hp : ∀ j, j < 6 → 1 ≤ (pd j).toInt ∧ (pd j).toInt ≤ 20000)
    (i : Nat) (hi : i < 5) (pl : Int64) (hpl : pl.toInt = -200 + 200 * i) (h1 : -200 + 200 * i ≤ t.toInt) (h2 : t.toInt < 200 * i) :
    (pd i).toInt64 + (f_J9_floorDiv_f86c9_r (((pd (i + 1)) - (pd i)).toInt64 * (if (t.toInt64 - pl) < (0 : Int64) then (0 : Int64) else (t.toInt64 - pl))) 200)
      = ((S (26 + (dix t.toInt64))) + (f_X10_floor_r (((S ((26 + (dix t.toInt64)) + 1)) - (S (26 + (dix t.toInt64)))) * ((t.toInt64 + 200) - (200 * (((((t.toInt64 + 200) / 200).toInt32).toInt64))))) 200))
    ∧ 1 ≤ ((pd i).toInt64 + (f_J9_floorDiv_f86c9_r (((pd (i + 1)) - (pd i)).toInt64 * (if (t.toInt64 - pl) < (0 : Int64) then (0 : Int64) else (t.toInt64 - pl))) 200)).toInt
    ∧ ((pd i).toInt64 + (f_J9_floorDiv_f86c9_r (((pd (i + 1)) - (pd i)).toInt64 * (if (t.toInt64 - pl) < (0 : Int64) then (0 : Int64) else (t.toInt64 - pl))) 200)).toInt ≤ 20000 := by
  have e200 : (200 : Int64).toInt = 200 := by decide
  have hq := pz_dixq t i (by omega) (by omega) h1 h2
  have hoi : (Int64.ofInt (i : Int)).toInt = (i : Int) := Int64.toInt_ofInt_of_le (by omega) (by omega)
  have hdix : dix t.toInt64 = i := by unfold dix; rw [hq, hoi]; omega
  have hb32 : ((Int64.ofInt (i : Int)).toInt32.toInt64) = Int64.ofInt (i : Int) := by
    apply pz_ext
    rw [pz_t, Int64.toInt_toInt32, hoi]
    exact Int.bmod_eq_of_le (by omega) (by omega)
  have hd : (t.toInt64 - pl).toInt = t.toInt + 200 - 200 * i := by
    rw [Kit.i64_sub (by rw [pz_t, hpl]; omega) (by rw [pz_t, hpl]; omega), pz_t, hpl]; omega
  have hd2 : ((t.toInt64 + 200) - (200 * (Int64.ofInt (i : Int)))) = t.toInt64 - pl := by
    apply pz_ext
    rw [hd]
    have ha : (t.toInt64 + 200).toInt = t.toInt + 200 := by
      rw [Kit.i64_add (by rw [pz_t, e200]; omega) (by rw [pz_t, e200]; omega), pz_t, e200]
    have hm : (200 * (Int64.ofInt (i : Int))).toInt = 200 * (i : Int) := by
      rw [Kit.i64_mul (by rw [hoi, e200]; omega) (by rw [hoi, e200]; omega), hoi, e200]
    rw [Kit.i64_sub (by rw [ha, hm]; omega) (by rw [ha, hm]; omega), ha, hm]
  have hn : ¬ (t.toInt64 - pl) < (0 : Int64) := by
    rw [Int64.lt_iff_toInt_lt, hd]; show ¬ _ < (0 : Int); omega
  have hpi := hp i (by omega)
  have hpj := hp (i + 1) (by omega)
  have hs : (pd (i + 1) - pd i).toInt64 = (pd (i + 1)).toInt64 - (pd i).toInt64 := pz_sub (by omega) (by omega)
  have hsZ : ((pd (i + 1)).toInt64 - (pd i).toInt64).toInt = (pd (i + 1)).toInt - (pd i).toInt := by
    rw [Kit.i64_sub (by rw [pz_t, pz_t]; omega) (by rw [pz_t, pz_t]; omega), pz_t, pz_t]
  rw [if_neg hn, hq, hb32, hd2, hdix, hS i (by omega), show 26 + i + 1 = 26 + (i + 1) from rfl, hS (i + 1) (by omega), pz_floor (by decide), hs]
  refine ⟨rfl, ?_⟩
  have hy0 : 0 ≤ t.toInt + 200 - 200 * i := by omega
  have hy1 : t.toInt + 200 - 200 * i ≤ 200 := by omega
  have hseg := pz_seg (a := (pd i).toInt) (b := (pd (i + 1)).toInt) (y := t.toInt + 200 - 200 * i) (w := 200) (L := 1) (H := 20000) (by decide) hy0 hy1 (by omega) (by omega) (by omega) (by omega)
  have hmb : -20000 * 200 ≤ ((pd (i + 1)).toInt - (pd i).toInt) * (t.toInt + 200 - 200 * i) ∧ ((pd (i + 1)).toInt - (pd i).toInt) * (t.toInt + 200 - 200 * i) ≤ 20000 * 200 := by
    constructor
    · have := Int.mul_le_mul_of_nonneg_right (a := -20000) (b := ((pd (i + 1)).toInt - (pd i).toInt)) (c := (t.toInt + 200 - 200 * i)) (by omega) hy0
      omega
    · have := Int.mul_le_mul_of_nonneg_right (b := 20000) (a := ((pd (i + 1)).toInt - (pd i).toInt)) (c := (t.toInt + 200 - 200 * i)) (by omega) hy0
      omega
  have hm : (((pd (i + 1)).toInt64 - (pd i).toInt64) * (t.toInt64 - pl)).toInt = ((pd (i + 1)).toInt - (pd i).toInt) * (t.toInt + 200 - 200 * i) := by
    rw [Kit.i64_mul (by rw [hsZ, hd]; omega) (by rw [hsZ, hd]; omega), hsZ, hd]
  have hf : (f_J9_floorDiv_f86c9_r (((pd (i + 1)).toInt64 - (pd i).toInt64) * (t.toInt64 - pl)) 200).toInt = (((pd (i + 1)).toInt - (pd i).toInt) * (t.toInt + 200 - 200 * i)) / 200 := by
    rw [nu_fd64 (by decide), hm, e200]
  rw [Kit.i64_add (by rw [pz_t, hf]; omega) (by rw [pz_t, hf]; omega), pz_t, hf]
  exact hseg
theorem pz_D (pd : Nat → Int32) (S : Nat → Int64) (t : Int32) (hS : ∀ j, j < 6 → S (26 + j) = (pd j).toInt64) (hp : ∀ j, j < 6 → 1 ≤ (pd j).toInt ∧ (pd j).toInt ≤ 20000) :
    f_X3_interpolated_D_r pd t.toInt64 = (if (-200) < t.toInt64 then (if t.toInt64 < 800 then (((S (26 + (dix t.toInt64))) + (f_X10_floor_r (((S ((26 + (dix t.toInt64)) + 1)) - (S (26 + (dix t.toInt64)))) * ((t.toInt64 + 200) - (200 * (((((t.toInt64 + 200) / 200).toInt32).toInt64))))) 200))) else ((S 31))) else ((S 26)))
    ∧ 1 ≤ (f_X3_interpolated_D_r pd t.toInt64).toInt ∧ (f_X3_interpolated_D_r pd t.toInt64).toInt ≤ 20000 := by
  have l0 : (0 : Int64) ≤ t.toInt64 ↔ 0 ≤ t.toInt := by rw [Int64.le_iff_toInt_le, pz_t]; exact Iff.rfl
  have l2 : (200 : Int64) ≤ t.toInt64 ↔ 200 ≤ t.toInt := by rw [Int64.le_iff_toInt_le, pz_t]; exact Iff.rfl
  have l4 : (400 : Int64) ≤ t.toInt64 ↔ 400 ≤ t.toInt := by rw [Int64.le_iff_toInt_le, pz_t]; exact Iff.rfl
  have l6 : (600 : Int64) ≤ t.toInt64 ↔ 600 ≤ t.toInt := by rw [Int64.le_iff_toInt_le, pz_t]; exact Iff.rfl
  have l8 : (800 : Int64) ≤ t.toInt64 ↔ 800 ≤ t.toInt := by rw [Int64.le_iff_toInt_le, pz_t]; exact Iff.rfl
  have m2 : (-200 : Int64) < t.toInt64 ↔ -200 < t.toInt := by rw [Int64.lt_iff_toInt_lt, pz_t]; exact Iff.rfl
  have m8 : t.toInt64 < (800 : Int64) ↔ t.toInt < 800 := by rw [Int64.lt_iff_toInt_lt, pz_t]; exact Iff.rfl
  unfold f_X3_interpolated_D_r
  by_cases c0 : 0 ≤ t.toInt
  · rw [if_pos (l0.mpr c0), if_pos (m2.mpr (by omega))]
    by_cases c2 : 200 ≤ t.toInt
    · rw [if_pos (l2.mpr c2)]
      by_cases c4 : 400 ≤ t.toInt
      · rw [if_pos (l4.mpr c4)]
        by_cases c6 : 600 ≤ t.toInt
        · rw [if_pos (l6.mpr c6)]
          by_cases c8 : 800 ≤ t.toInt
          · rw [if_pos (l8.mpr c8), if_neg (fun z => by have := m8.mp z; omega)]
            have := hp 5 (by decide)
            exact ⟨(hS 5 (by decide)).symm, by rw [pz_t]; omega, by rw [pz_t]; omega⟩
          · rw [if_neg (fun z => c8 (l8.mp z)), if_pos (m8.mpr (by omega))]
            exact pz_Dseg pd S t hS hp 4 (by decide) 600 (by decide) (by omega) (by omega)
        · rw [if_neg (fun z => c6 (l6.mp z)), if_pos (m8.mpr (by omega))]
          exact pz_Dseg pd S t hS hp 3 (by decide) 400 (by decide) (by omega) (by omega)
      · rw [if_neg (fun z => c4 (l4.mp z)), if_pos (m8.mpr (by omega))]
        exact pz_Dseg pd S t hS hp 2 (by decide) 200 (by decide) (by omega) (by omega)
    · rw [if_neg (fun z => c2 (l2.mp z)), if_pos (m8.mpr (by omega))]
      exact pz_Dseg pd S t hS hp 1 (by decide) 0 (by decide) (by omega) (by omega)
  · rw [if_neg (fun z => c0 (l0.mp z))]
    by_cases cm : -200 < t.toInt
    · rw [if_pos (m2.mpr cm), if_pos (m8.mpr (by omega))]
      exact pz_Dseg pd S t hS hp 0 (by decide) (-200) (by decide) (by omega) (by omega)
    · rw [if_neg (fun z => cm (m2.mp z))]
      have hw : (if (t.toInt64 - (-200)) < (0 : Int64) then (0 : Int64) else (t.toInt64 - (-200))) = 0 := by
        have ht1 := t.le_toInt
        have hd : (t.toInt64 - (-200)).toInt = t.toInt + 200 := by
          have e : (-200 : Int64).toInt = -200 := by decide
          rw [Kit.i64_sub (by rw [pz_t, e]; omega) (by rw [pz_t, e]; omega), pz_t, e]; omega
        by_cases z : (t.toInt64 - (-200)) < (0 : Int64)
        · rw [if_pos z]
        · rw [if_neg z]
          apply pz_ext
          rw [Int64.lt_iff_toInt_lt, hd] at z
          have z' : ¬ (t.toInt + 200 < 0) := z
          rw [hd]; show _ = (0 : Int); omega
      rw [hw, Int64.mul_zero, show f_J9_floorDiv_f86c9_r 0 200 = 0 from by decide, Int64.add_zero]
      have := hp 0 (by decide)
      exact ⟨(hS 0 (by decide)).symm, by rw [pz_t]; omega, by rw [pz_t]; omega⟩
