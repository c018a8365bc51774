/-! pure numbers: floor division, the class's square root -/
theorem nu_xor32 {x y : Int32} (hy : 0 ≤ y.toInt) : (0 ≤ x ^^^ y) ↔ 0 ≤ x.toInt := by
  rw [Int32.le_iff_toInt_le]
  show (0 : Int) ≤ (x.toBitVec ^^^ y.toBitVec).toInt ↔ 0 ≤ x.toBitVec.toInt
  have hy2 : y.toBitVec.msb = false := by
    rw [BitVec.msb_eq_toInt]
    have : y.toBitVec.toInt = y.toInt := rfl
    simp; omega
  have h1 : (x.toBitVec ^^^ y.toBitVec).msb = x.toBitVec.msb := by rw [BitVec.msb_xor, hy2, Bool.xor_false]
  rw [BitVec.msb_eq_toInt, BitVec.msb_eq_toInt] at h1
  have h2 := decide_eq_decide.mp h1
  omega
theorem nu_xor64 {x y : Int64} (hy : 0 ≤ y.toInt) : (0 ≤ x ^^^ y) ↔ 0 ≤ x.toInt := by
  rw [Int64.le_iff_toInt_le]
  show (0 : Int) ≤ (x.toBitVec ^^^ y.toBitVec).toInt ↔ 0 ≤ x.toBitVec.toInt
  have hy2 : y.toBitVec.msb = false := by
    rw [BitVec.msb_eq_toInt]
    have : y.toBitVec.toInt = y.toInt := rfl
    simp; omega
  have h1 : (x.toBitVec ^^^ y.toBitVec).msb = x.toBitVec.msb := by rw [BitVec.msb_xor, hy2, Bool.xor_false]
  rw [BitVec.msb_eq_toInt, BitVec.msb_eq_toInt] at h1
  have h2 := decide_eq_decide.mp h1
  omega
theorem nu_tdiv_abs (a b : Int) : (a.tdiv b * b).natAbs ≤ a.natAbs := by
  rw [Int.natAbs_mul, Int.natAbs_tdiv]
  exact Nat.div_mul_le_self _ _
theorem nu_tdiv_np {a b : Int} (ha : a < 0) (hb : 0 < b) : a.tdiv b * b ≤ 0 := by
  have h1 : (-a).tdiv b = -(a.tdiv b) := Int.neg_tdiv a b
  have h2 : 0 ≤ (-a).tdiv b := Int.tdiv_nonneg (by omega) (by omega)
  have h3 : 0 ≤ (-(a.tdiv b)) * b := Int.mul_nonneg (by omega) (by omega)
  rw [Int.neg_mul] at h3
  omega
theorem nu_tdiv_lt {a b : Int} (ha : a < 0) (hb : 0 < b) (h : a.tdiv b * b ≠ a) : a / b = a.tdiv b - 1 := by
  have hnd : ¬ b ∣ a := fun hd => h (Int.tdiv_mul_cancel hd)
  have h1 := Int.tdiv_eq_ediv (a := a) (b := b)
  have h2 : ¬ (0 ≤ a ∨ b ∣ a) := by
    intro z
    rcases z with z | z
    · omega
    · exact hnd z
  rw [if_neg h2, Int.sign_eq_one_of_pos hb] at h1
  omega
theorem nu_tdiv_eq {a b : Int} (h : a.tdiv b * b = a) : a / b = a.tdiv b := by
  have hd : b ∣ a := ⟨a.tdiv b, by rw [Int.mul_comm]; exact h.symm⟩
  have h1 := Int.tdiv_eq_ediv (a := a) (b := b)
  rw [if_pos (Or.inr hd)] at h1
  omega
/-- the JDK's floorDiv of ints, a positive divisor -/
theorem nu_fd32 {x y : Int32} (hy : 0 < y.toInt) : (f_J9_floorDiv_7cf53_r x y).toInt = x.toInt / y.toInt := by
  have hq : (x / y).toInt = x.toInt.tdiv y.toInt := Kit.i32_div (by omega)
  have hx1 := x.toInt_lt
  have hx2 := x.le_toInt
  unfold f_J9_floorDiv_7cf53_r
  by_cases h : 0 ≤ x.toInt
  · rw [if_pos ((nu_xor32 (Int.le_of_lt hy)).mpr h), hq]
    exact Int.tdiv_eq_ediv_of_nonneg h
  · rw [if_neg (fun z => h ((nu_xor32 (Int.le_of_lt hy)).mp z))]
    have hab := nu_tdiv_abs x.toInt y.toInt
    have hnp := nu_tdiv_np (by omega : x.toInt < 0) hy
    have hm : (x / y * y).toInt = x.toInt.tdiv y.toInt * y.toInt := by
      rw [Kit.i32_mul (by rw [hq]; omega) (by rw [hq]; omega), hq]
    by_cases e : x / y * y = x
    · rw [if_pos e, hq]
      exact (nu_tdiv_eq (by rw [← hm, e])).symm
    · rw [if_neg e]
      have e2 : x.toInt.tdiv y.toInt * y.toInt ≠ x.toInt := fun z => e (Int32.toInt_inj.mp (by rw [hm]; exact z))
      have hn0 : (x.toInt.tdiv y.toInt).natAbs ≤ x.toInt.natAbs := by rw [Int.natAbs_tdiv]; exact Nat.div_le_self _ _
      have h1 : x.toInt.tdiv y.toInt ≠ -2147483648 := by
        intro z
        have hy1 : y.toInt = 1 ∨ 2 ≤ y.toInt := by omega
        rcases hy1 with hy1 | hy1
        · exact e2 (by rw [hy1, Int.tdiv_one, Int.mul_one])
        · have h3 : (x.toInt.tdiv y.toInt).natAbs ≤ x.toInt.natAbs / 2 := by rw [Int.natAbs_tdiv]; exact Nat.div_le_div_left (by omega) (by decide)
          omega
      rw [Kit.i32_sub (by rw [hq]; show _ ≤ _ - (1 : Int); omega) (by rw [hq]; show _ - (1 : Int) < _; omega), hq]
      exact (nu_tdiv_lt (by omega) hy e2).symm
theorem nu_fd64 {x y : Int64} (hy : 0 < y.toInt) : (f_J9_floorDiv_f86c9_r x y).toInt = x.toInt / y.toInt := by
  have hq : (x / y).toInt = x.toInt.tdiv y.toInt := Kit.i64_div (by omega)
  have hx1 := x.toInt_lt
  have hx2 := x.le_toInt
  unfold f_J9_floorDiv_f86c9_r
  by_cases h : 0 ≤ x.toInt
  · rw [if_pos ((nu_xor64 (Int.le_of_lt hy)).mpr h), hq]
    exact Int.tdiv_eq_ediv_of_nonneg h
  · rw [if_neg (fun z => h ((nu_xor64 (Int.le_of_lt hy)).mp z))]
    have hab := nu_tdiv_abs x.toInt y.toInt
    have hnp := nu_tdiv_np (by omega : x.toInt < 0) hy
    have hm : (x / y * y).toInt = x.toInt.tdiv y.toInt * y.toInt := by
      rw [Kit.i64_mul (by rw [hq]; omega) (by rw [hq]; omega), hq]
    by_cases e : x / y * y = x
    · rw [if_pos e, hq]
      exact (nu_tdiv_eq (by rw [← hm, e])).symm
    · rw [if_neg e]
      have e2 : x.toInt.tdiv y.toInt * y.toInt ≠ x.toInt := fun z => e (Int64.toInt_inj.mp (by rw [hm]; exact z))
      have hn0 : (x.toInt.tdiv y.toInt).natAbs ≤ x.toInt.natAbs := by rw [Int.natAbs_tdiv]; exact Nat.div_le_self _ _
      have h1 : x.toInt.tdiv y.toInt ≠ -9223372036854775808 := by
        intro z
        have hy1 : y.toInt = 1 ∨ 2 ≤ y.toInt := by omega
        rcases hy1 with hy1 | hy1
        · exact e2 (by rw [hy1, Int.tdiv_one, Int.mul_one])
        · have h3 : (x.toInt.tdiv y.toInt).natAbs ≤ x.toInt.natAbs / 2 := by rw [Int.natAbs_tdiv]; exact Nat.div_le_div_left (by omega) (by decide)
          omega
      rw [Kit.i64_sub (by rw [hq]; show _ ≤ _ - (1 : Int); omega) (by rw [hq]; show _ - (1 : Int) < _; omega), hq]
      exact (nu_tdiv_lt (by omega) hy e2).symm
/-- r is the greatest whole number whose square is at most v -/
def sqr (v r : Int64) : Prop := 0 ≤ r.toInt ∧ r.toInt * r.toInt ≤ v.toInt ∧ v.toInt < (r.toInt + 1) * (r.toInt + 1)
theorem sqr_uniq {v r q : Int64} (h : sqr v r) (k : sqr v q) : r = q := by
  obtain ⟨h1, h2, h3⟩ := h
  obtain ⟨k1, k2, k3⟩ := k
  apply Int64.toInt_inj.mp
  have a : ∀ x y z : Int, 0 ≤ x → 0 ≤ y → x * x ≤ z → z < (y + 1) * (y + 1) → x ≤ y := by
    intro x y z hx hy h1 h2
    rcases Int.lt_or_le y x with h | h
    · have : (y + 1) * (y + 1) ≤ x * x := Int.mul_le_mul (by omega) (by omega) (by omega) (by omega)
      omega
    · exact h
  have := a _ _ _ h1 k1 h2 k3
  have := a _ _ _ k1 h1 k2 h3
  omega
/-- the loop of the class's square root: e bits are left -/
def sqI (v : Int64) (e : Nat) (x b : Int64) : Prop := b = (if e = 0 then 0 else Int64.ofNat (2 ^ (e - 1))) ∧ 0 ≤ x.toInt ∧ x.toInt * x.toInt ≤ v.toInt ∧ v.toInt < (x.toInt + 2 ^ e) * (x.toInt + 2 ^ e) ∧ x.toInt + 2 ^ e ≤ 8388608
theorem sq_bit : ∀ e, e < 23 → (Int64.ofNat (2 ^ e)).toInt = (2 : Int) ^ e ∧ (Int64.ofNat (2 ^ e)) >>> ((1 : Int32).toInt64 &&& 63) = (if e = 0 then 0 else Int64.ofNat (2 ^ (e - 1))) ∧ (2 : Int) ^ (e + 1) = 2 * 2 ^ e ∧ ¬ (Int64.ofNat (2 ^ e)) ≤ 0 := by decide +kernel
theorem sq_start {v : Int64} (h0 : 0 ≤ v.toInt) (h1 : v.toInt < 70368744177664) : sqI v 23 0 4194304 :=
  ⟨by decide +kernel, by decide, by show (0 : Int) * 0 ≤ _; omega, by show _ < ((0 : Int) + 2 ^ 23) * ((0 : Int) + 2 ^ 23); omega, by decide⟩
theorem sq_end {v x b : Int64} (h : sqI v 0 x b) : sqr v x := ⟨h.2.1, h.2.2.1, h.2.2.2.1⟩
theorem sq_z {v x b : Int64} (h : sqI v 0 x b) : b ≤ 0 := by rw [h.1]; decide
theorem sq_s {v x b : Int64} {e : Nat} (he : e < 23) (h : sqI v (e + 1) x b) : ¬ b ≤ 0 := by
  rw [h.1, if_neg (by omega)]
  exact (sq_bit e he).2.2.2
theorem sq_num {v x b : Int64} {e : Nat} (he : e < 23) (h : sqI v (e + 1) x b) : (x + b).toInt = x.toInt + 2 ^ e ∧ ((x + b) * (x + b)).toInt = (x.toInt + 2 ^ e) * (x.toInt + 2 ^ e) ∧ 0 < (2 : Int) ^ e := by
  obtain ⟨hb, h1, h2, h3, h4⟩ := h
  rw [if_neg (by omega), Nat.add_sub_cancel] at hb
  obtain ⟨b1, b2, b3, b4⟩ := sq_bit e he
  have hp : 0 < (2 : Int) ^ e := Int.pow_pos (by decide)
  rw [b3] at h4
  have e1 : (x + b).toInt = x.toInt + 2 ^ e := by
    rw [Kit.i64_add (by rw [hb, b1]; omega) (by rw [hb, b1]; omega), hb, b1]
  refine ⟨e1, ?_, hp⟩
  have hm0 : 0 ≤ (x.toInt + 2 ^ e) * (x.toInt + 2 ^ e) := Int.mul_nonneg (by omega) (by omega)
  have hm : (x.toInt + 2 ^ e) * (x.toInt + 2 ^ e) ≤ 8388608 * 8388608 := Int.mul_le_mul (by omega) (by omega) (by omega) (by decide)
  rw [Kit.i64_mul (by rw [e1]; omega) (by rw [e1]; omega), e1]
theorem sq_yes {v x b : Int64} {e : Nat} (he : e < 23) (h : sqI v (e + 1) x b) (hc : ¬ v < (x + b) * (x + b)) : sqI v e (x + b) (b >>> ((1 : Int32).toInt64 &&& 63)) := by
  obtain ⟨e1, e2, hp⟩ := sq_num he h
  obtain ⟨hb, h1, h2, h3, h4⟩ := h
  rw [if_neg (by omega), Nat.add_sub_cancel] at hb
  obtain ⟨b1, b2, b3, b4⟩ := sq_bit e he
  rw [Int64.lt_iff_toInt_lt, e2] at hc
  rw [b3] at h3 h4
  refine ⟨by rw [hb]; exact b2, by omega, by rw [e1]; omega, ?_, by omega⟩
  rw [e1, show x.toInt + 2 ^ e + 2 ^ e = x.toInt + 2 * 2 ^ e by omega]
  exact h3
theorem sq_no {v x b : Int64} {e : Nat} (he : e < 23) (h : sqI v (e + 1) x b) (hc : v < (x + b) * (x + b)) : sqI v e x (b >>> ((1 : Int32).toInt64 &&& 63)) := by
  obtain ⟨e1, e2, hp⟩ := sq_num he h
  obtain ⟨hb, h1, h2, h3, h4⟩ := h
  rw [if_neg (by omega), Nat.add_sub_cancel] at hb
  obtain ⟨b1, b2, b3, b4⟩ := sq_bit e he
  rw [Int64.lt_iff_toInt_lt, e2] at hc
  rw [b3] at h4
  exact ⟨by rw [hb]; exact b2, h1, h2, by omega, by omega⟩
noncomputable def isq (v : Int64) : Int64 := Classical.epsilon (fun r => sqr v r)
theorem isq_eq {v r : Int64} (h : sqr v r) : r = isq v := sqr_uniq h (Classical.epsilon_spec (p := fun r => sqr v r) ⟨r, h⟩)
theorem isq_spec {v r : Int64} (h : sqr v r) : sqr v (isq v) := by rw [← isq_eq h]; exact h
/-- a record's values go into the hash -/
noncomputable def hr_in (f : Nat → Int64) (h : Int64) : Nat → Int64
  | 0 => h
  | m + 1 => f_X9_hashed_r (hr_in f h m) (f m)
noncomputable def hr_out (v : Nat → Nat → Int64) (w : Nat) (h : Int64) : Nat → Int64
  | 0 => h
  | n + 1 => hr_in (v n) (hr_out v w h n) w
theorem nI_back {x : Int32} (h : 0 ≤ x.toInt) : nI x.toNatClampNeg = x := by
  apply Int32.toInt_inj.mp
  have h2 := x.toInt_lt
  have e : x.toNatClampNeg = x.toInt.toNat := rfl
  rw [nI_toInt (by omega), e]
  omega
theorem nI_lt31 (x : Int32) : x.toNatClampNeg < 2 ^ 31 := by
  have h2 := x.toInt_lt
  have e : x.toNatClampNeg = x.toInt.toNat := rfl
  omega
