/-- the reference's root: the search's bounds -/
def rtI (v lo hi : Int64) : Prop := 0 ≤ lo.toInt ∧ lo.toInt ≤ hi.toInt ∧ hi.toInt ≤ 3037000499 ∧ lo.toInt * lo.toInt ≤ v.toInt ∧ v.toInt < (hi.toInt + 1) * (hi.toInt + 1)
theorem rt_start {v : Int64} (h : 0 ≤ v.toInt) : rtI v 0 3037000499 := by
  have h2 := v.toInt_lt
  refine ⟨by decide, by decide, by decide, ?_, ?_⟩
  · show (0 : Int) * 0 ≤ _; omega
  · show _ < ((3037000499 : Int) + 1) * (3037000499 + 1); omega
theorem rt_end {v lo hi : Int64} (h : rtI v lo hi) (hc : hi ≤ lo) : sqr v lo := by
  obtain ⟨h1, h2, h3, h4, h5⟩ := h
  rw [Int64.le_iff_toInt_le] at hc
  have e : hi.toInt = lo.toInt := by omega
  exact ⟨h1, h4, by rw [← e]; exact h5⟩
theorem rt_z {v lo hi : Int64} (h : rtI v lo hi) {n : Nat} (hn : (hi.toInt - lo.toInt).toNat ≤ n) (h0 : n = 0) : hi ≤ lo := by
  obtain ⟨h1, h2, h3, h4, h5⟩ := h
  rw [Int64.le_iff_toInt_le]
  omega
theorem rt_mid {v lo hi : Int64} (h : rtI v lo hi) (hc : ¬ hi ≤ lo) : ((lo + hi + 1) / 2).toInt = (lo.toInt + hi.toInt + 1) / 2 ∧ lo.toInt < (lo.toInt + hi.toInt + 1) / 2 ∧ (lo.toInt + hi.toInt + 1) / 2 ≤ hi.toInt ∧ ((lo + hi + 1) / 2 * ((lo + hi + 1) / 2)).toInt = (lo.toInt + hi.toInt + 1) / 2 * ((lo.toInt + hi.toInt + 1) / 2) := by
  obtain ⟨h1, h2, h3, h4, h5⟩ := h
  rw [Int64.le_iff_toInt_le] at hc
  have e1 : (lo + hi).toInt = lo.toInt + hi.toInt := Kit.i64_add (by omega) (by omega)
  have e2 : (lo + hi + 1).toInt = lo.toInt + hi.toInt + 1 := by
    rw [Kit.i64_add (by rw [e1]; show _ ≤ _ + (1 : Int); omega) (by rw [e1]; show _ + (1 : Int) < _; omega), e1]; rfl
  have e3 : ((lo + hi + 1) / 2).toInt = (lo.toInt + hi.toInt + 1) / 2 := by
    rw [Kit.i64_div (by rw [e2]; omega), e2]
    exact Int.tdiv_eq_ediv_of_nonneg (by omega)
  have hm : (lo.toInt + hi.toInt + 1) / 2 * ((lo.toInt + hi.toInt + 1) / 2) ≤ 3037000499 * 3037000499 := Int.mul_le_mul (by omega) (by omega) (by omega) (by decide)
  have hm0 : 0 ≤ (lo.toInt + hi.toInt + 1) / 2 * ((lo.toInt + hi.toInt + 1) / 2) := Int.mul_nonneg (by omega) (by omega)
  exact ⟨e3, by omega, by omega, by rw [Kit.i64_mul (by rw [e3]; omega) (by rw [e3]; omega), e3]⟩
theorem rt_yes {v lo hi : Int64} {n : Nat} (h : rtI v lo hi) (hn : (hi.toInt - lo.toInt).toNat ≤ n + 1) (hc : ¬ hi ≤ lo) (hv : ¬ v < (lo + hi + 1) / 2 * ((lo + hi + 1) / 2)) : (hi.toInt - ((lo + hi + 1) / 2).toInt).toNat ≤ n ∧ rtI v ((lo + hi + 1) / 2) hi := by
  obtain ⟨e1, e2, e3, e4⟩ := rt_mid h hc
  obtain ⟨h1, h2, h3, h4, h5⟩ := h
  rw [Int64.lt_iff_toInt_lt, e4] at hv
  exact ⟨by omega, by omega, by omega, h3, by rw [e1]; omega, h5⟩
theorem rt_no {v lo hi : Int64} {n : Nat} (h : rtI v lo hi) (hn : (hi.toInt - lo.toInt).toNat ≤ n + 1) (hc : ¬ hi ≤ lo) (hv : v < (lo + hi + 1) / 2 * ((lo + hi + 1) / 2)) : (((lo + hi + 1) / 2 - 1).toInt - lo.toInt).toNat ≤ n ∧ rtI v lo ((lo + hi + 1) / 2 - 1) := by
  obtain ⟨e1, e2, e3, e4⟩ := rt_mid h hc
  obtain ⟨h1, h2, h3, h4, h5⟩ := h
  rw [Int64.lt_iff_toInt_lt, e4] at hv
  have e5 : ((lo + hi + 1) / 2 - 1).toInt = (lo.toInt + hi.toInt + 1) / 2 - 1 := by
    rw [Kit.i64_sub (by rw [e1]; show _ ≤ _ - (1 : Int); omega) (by rw [e1]; show _ - (1 : Int) < _; omega), e1]; rfl
  exact ⟨by omega, by omega, by omega, by omega, h4, by rw [e5, show (lo.toInt + hi.toInt + 1) / 2 - 1 + 1 = (lo.toInt + hi.toInt + 1) / 2 by omega]; exact hv⟩
def dix (b : Int64) : Nat := ((b + 200) / 200).toInt.toNat
theorem dix_ok {b : Int64} (h1 : -200 < b) (h2 : b < 800) : dix b < 5 ∧ ((b + 200) / 200).toInt32 = nI (dix b) := by
  rw [Int64.lt_iff_toInt_lt] at h1 h2
  have k1 : (-200 : Int64).toInt = -200 := rfl
  have k2 : (800 : Int64).toInt = 800 := rfl
  rw [k1] at h1
  rw [k2] at h2
  have e1 : (b + 200).toInt = b.toInt + 200 := by
    rw [Kit.i64_add (by show _ ≤ _ + (200 : Int); omega) (by show _ + (200 : Int) < _; omega)]; rfl
  have e2 : ((b + 200) / 200).toInt = (b.toInt + 200) / 200 := by
    rw [Kit.i64_div (by rw [e1]; omega), e1]
    exact Int.tdiv_eq_ediv_of_nonneg (by omega)
  unfold dix
  refine ⟨by rw [e2]; omega, ?_⟩
  apply Int32.toInt_inj.mp
  rw [Kit.i32_of_i64 (by rw [e2]; omega) (by rw [e2]; omega), nI_toInt (by rw [e2]; omega), e2]
  omega
theorem dn_nz {b x : Int64} (hbd : -1000000 ≤ b.toInt ∧ b.toInt ≤ 1000000) (hc : ¬ (b + 2731) ≤ 1) (hx : x = 101 * (b + 2731)) : ¬ x = 0 := by
  intro e
  have e1 : (b + 2731).toInt = b.toInt + 2731 := by
    rw [Kit.i64_add (by show _ ≤ _ + (2731 : Int); omega) (by show _ + (2731 : Int) < _; omega)]; rfl
  rw [Int64.le_iff_toInt_le, e1] at hc
  have k1 : (1 : Int64).toInt = 1 := rfl
  rw [k1] at hc
  have e2 : x.toInt = 101 * (b.toInt + 2731) := by
    have k2 : (101 : Int64).toInt = 101 := rfl
    rw [hx, Kit.i64_mul (by rw [e1, k2]; omega) (by rw [e1, k2]; omega), e1, k2]
  rw [e] at e2
  have k3 : (0 : Int64).toInt = 0 := rfl
  rw [k3] at e2
  omega

set_option maxHeartbeats 4000000 in
set_option maxRecDepth 100000 in
theorem k_X10_root (l : Launch) (G : sw_E) (v : Int64) (hv0 : 0 ≤ v.toInt) : sw_M l G yX10_root wsX10_root ({ frames := 0, cells := 0, slots := 0, locals := 0 } : Room) [.long v] [] (sw_QL G (S := Unit) (fun (r : Int64) (u : Unit) => r = isq v) (fun u => [])) 0 0 := by
  refine sw_start (cc := cX10_root) (maxL := 8) (ret := some .long) (lv := [(0, .long v)]) (own := RX10) (nm := "root") (by decide +kernel) rfl rfl rfl rfl (Nat.le_of_ble_eq_true rfl) (fun C F T => ?_)
  have loop : ∀ (n : Nat) (x2 x4 : Int64), (x4.toInt - x2.toInt).toNat ≤ n → rtI v x2 x4 → SW G C 0 0 [] [(4, .long x4), (2, .long x2), (0, .long v)] 7 [] := by
    intro n
    induction n with
    | zero =>
      intro x2 x4 hn hI
      refine sw_lload_n (pc := 7) F dX10_root_7 rfl 1 rfl ?_
      refine sw_lload (pc := 8) F dX10_root_8 0 rfl ?_
      refine sw_lcmp_ge (pc := 10) (tgt := 51) F dX10_root_10 dX10_root_11 (by decide) (fun _ => ?_) (fun c => absurd (rt_z hI hn rfl) c)
      refine sw_lload_n (pc := 51) F dX10_root_51 rfl 1 rfl ?_
      exact sw_lret (pc := 52) F T () (isq_eq (rt_end hI (rt_z hI hn rfl))) rfl dX10_root_52
    | succ n ih =>
      intro x2 x4 hn hI
      refine sw_lload_n (pc := 7) F dX10_root_7 rfl 1 rfl ?_
      refine sw_lload (pc := 8) F dX10_root_8 0 rfl ?_
      refine sw_lcmp_ge (pc := 10) (tgt := 51) F dX10_root_10 dX10_root_11 (by decide) (fun c_1 => ?_) (fun c_1 => ?_)
      · skip
        refine sw_lload_n (pc := 51) F dX10_root_51 rfl 1 rfl ?_
        exact sw_lret (pc := 52) F T () (isq_eq (rt_end hI c_1)) rfl dX10_root_52
      · skip
        refine sw_lload_n (pc := 14) F dX10_root_14 rfl 1 rfl ?_
        refine sw_lload (pc := 15) F dX10_root_15 0 rfl ?_
        refine sw_ladd (pc := 17) F dX10_root_17 ?_
        refine sw_topl (fun x_2 ex_2 => ?_)
        refine sw_lconst (pc := 18) (v := 1) F dX10_root_18 rfl ?_
        refine sw_ladd (pc := 19) F dX10_root_19 ?_
        refine sw_topl (fun x_3 ex_3 => ?_)
        refine sw_ldc2 (pc := 20) (v := 2) F (List.mem_of_getElem? (i := 2) rfl) dX10_root_20 ?_
        refine sw_ldiv (pc := 23) F dX10_root_23 (by decide) ?_
        refine sw_topl (fun x_4 ex_4 => ?_)
        refine sw_lstore (pc := 24) (lv' := [(6, .long x_4), (4, .long x4), (2, .long x2), (0, .long v)]) F T.1 dX10_root_24 (by decide) rfl ?_
        refine sw_lload (pc := 26) F dX10_root_26 0 rfl ?_
        refine sw_lload (pc := 28) F dX10_root_28 0 rfl ?_
        refine sw_lmul (pc := 30) F dX10_root_30 ?_
        refine sw_topl (fun x_5 ex_5 => ?_)
        refine sw_lload_n (pc := 31) F dX10_root_31 rfl 3 rfl ?_
        refine sw_lcmp_gt (pc := 32) (tgt := 42) F dX10_root_32 dX10_root_33 (by decide) (fun c_6 => ?_) (fun c_6 => ?_)
        · skip
          refine sw_lload (pc := 42) F dX10_root_42 0 rfl ?_
          refine sw_lconst (pc := 44) (v := 1) F dX10_root_44 rfl ?_
          refine sw_lsub (pc := 45) F dX10_root_45 ?_
          refine sw_topl (fun x_7 ex_7 => ?_)
          refine sw_lstore (pc := 46) (lv' := [(4, .long x_7), (6, .long x_4), (2, .long x2), (0, .long v)]) F T.1 dX10_root_46 (by decide) rfl ?_
          refine sw_goto (pc := 48) (tgt := 7) F dX10_root_48 (by decide) ?_
          refine sw_lvs (is := [0, 2, 3]) (lv' := [(4, .long x_7), (2, .long x2), (0, .long v)]) rfl ?_
          subst ex_7
          subst ex_5
          subst ex_4
          subst ex_3
          subst ex_2
          have hz := rt_no hI hn c_1 c_6
          exact ih _ _ hz.1 hz.2
        · skip
          refine sw_lload (pc := 36) F dX10_root_36 0 rfl ?_
          refine sw_lstore_n (pc := 38) (lv' := [(2, .long x_4), (6, .long x_4), (4, .long x4), (0, .long v)]) F T.1 dX10_root_38 rfl (by decide) rfl ?_
          refine sw_goto (pc := 39) (tgt := 48) F dX10_root_39 (by decide) ?_
          refine sw_goto (pc := 48) (tgt := 7) F dX10_root_48 (by decide) ?_
          refine sw_lvs (is := [2, 0, 3]) (lv' := [(4, .long x4), (2, .long x_4), (0, .long v)]) rfl ?_
          subst ex_5
          subst ex_4
          subst ex_3
          subst ex_2
          have hz := rt_yes hI hn c_1 c_6
          exact ih _ _ hz.1 hz.2
  refine sw_lconst (pc := 0) (v := 0) F dX10_root_0 rfl ?_
  refine sw_lstore_n (pc := 1) (lv' := [(2, .long 0), (0, .long v)]) F T.1 dX10_root_1 rfl (by decide) rfl ?_
  refine sw_ldc2 (pc := 2) (v := 3037000499) F (List.mem_of_getElem? (i := 1) rfl) dX10_root_2 ?_
  refine sw_lstore (pc := 5) (lv' := [(4, .long 3037000499), (2, .long 0), (0, .long v)]) F T.1 dX10_root_5 (by decide) rfl ?_
  refine sw_lvs (is := [0, 1, 2]) (lv' := [(4, .long 3037000499), (2, .long 0), (0, .long v)]) rfl ?_
  exact loop _ 0 3037000499 (Nat.le_refl _) (rt_start hv0)
def f_X10_thrown_r (th : Int32) : Int32 := th
set_option maxHeartbeats 4000000 in
set_option maxRecDepth 100000 in
theorem k_X10_thrown (l : Launch) (G : sw_E) (h0 : Nat) (b0 : Nat) (b1 : Nat) (np : Int32) (th : Int32) (hh : Int64) (S : Nat → Int64) (P : Nat → Int64)  : sw_M l G yX10_thrown wsX10_thrown ({ frames := 0, cells := 0, slots := 0, locals := 0 } : Room) [.ref h0] [(h0, .inr (10, [.ref b0, .ref b1, .int np, .int th, .long hh])), (b0, .inl (G.2.1.2, 344, .inr (.inl S))), (b1, .inl (G.2.1.2, 1032, .inr (.inl P)))] (sw_QI G (S := Unit) (fun (r : Int32) (_ : Unit) => r = f_X10_thrown_r th) (fun _ => [(h0, .inr (10, [.ref b0, .ref b1, .int np, .int th, .long hh])), (b0, .inl (G.2.1.2, 344, .inr (.inl S))), (b1, .inl (G.2.1.2, 1032, .inr (.inl P)))])) 0 0 := by
  refine sw_start (cc := cX10_thrown) (maxL := 1) (ret := some .int) (lv := [(0, .ref h0)]) (own := RX10) (nm := "thrown") (by decide +kernel) rfl rfl rfl rfl (Nat.le_of_ble_eq_true rfl) (fun C F T => ?_)
  have in10 : ∀ w ∈ u_ws RX10 TX10 5, w ∈ wsX10_thrown := fun w h => List.mem_cons_of_mem _ (List.mem_append_right _ (h))
  refine sw_aload_n (pc := 0) F dX10_thrown_0 rfl 0 rfl ?_
  refine sw_get (pc := 1) (Cn := RX10) (T := TX10) (N := 5) (ci := 10) (v := .int th) F in10 0 rfl rfl 3 (by decide) rfl (List.mem_of_getElem? (i := 1) rfl) rfl dX10_thrown_1 ?_
  exact sw_iret (pc := 4) F T rfl rfl () rfl rfl dX10_thrown_4
def f_X10_in_r (a : Int64) (b : Int64) (c : Int64) : Int32 := if a < b then (0) else (if c < a then (0) else (1))
set_option maxHeartbeats 4000000 in
set_option maxRecDepth 100000 in
theorem k_X10_in (l : Launch) (G : sw_E) (a : Int64) (b : Int64) (c : Int64)  : sw_M l G yX10_in wsX10_in ({ frames := 0, cells := 0, slots := 0, locals := 0 } : Room) [.long a, .long b, .long c] [] (sw_QI G (S := Unit) (fun (r : Int32) (_ : Unit) => r = f_X10_in_r a b c) (fun _ => [])) 0 0 := by
  refine sw_start (cc := cX10_in) (maxL := 6) (ret := some .boolean) (lv := [(0, .long a), (2, .long b), (4, .long c)]) (own := RX10) (nm := "in") (by decide +kernel) rfl rfl rfl rfl (Nat.le_of_ble_eq_true rfl) (fun C F T => ?_)
  refine sw_lload_n (pc := 0) F dX10_in_0 rfl 0 rfl ?_
  refine sw_lload_n (pc := 1) F dX10_in_1 rfl 1 rfl ?_
  refine sw_lcmp_lt (pc := 2) (tgt := 17) F dX10_in_2 dX10_in_3 (by decide) (fun c_1 => ?_) (fun c_1 => ?_)
  · skip
    refine sw_iconst (pc := 17) (v := 0) F dX10_in_17 rfl ?_
    exact sw_iret (pc := 18) F T rfl rfl () (by unfold f_X10_in_r; rw [if_pos c_1]) rfl dX10_in_18
  · skip
    refine sw_lload_n (pc := 6) F dX10_in_6 rfl 0 rfl ?_
    refine sw_lload (pc := 7) F dX10_in_7 2 rfl ?_
    refine sw_lcmp_gt (pc := 9) (tgt := 17) F dX10_in_9 dX10_in_10 (by decide) (fun c_2 => ?_) (fun c_2 => ?_)
    · skip
      refine sw_iconst (pc := 17) (v := 0) F dX10_in_17 rfl ?_
      exact sw_iret (pc := 18) F T rfl rfl () (by unfold f_X10_in_r; rw [if_neg c_1, if_pos c_2]) rfl dX10_in_18
    · skip
      refine sw_iconst (pc := 13) (v := 1) F dX10_in_13 rfl ?_
      refine sw_goto (pc := 14) (tgt := 18) F dX10_in_14 (by decide) ?_
      exact sw_iret (pc := 18) F T rfl rfl () (by unfold f_X10_in_r; rw [if_neg c_1, if_neg c_2]) rfl dX10_in_18
set_option maxHeartbeats 4000000 in
set_option maxRecDepth 100000 in
theorem k_X10_fails (l : Launch) (G : sw_E) (h0 : Nat) (b0 : Nat) (b1 : Nat) (np : Int32) (th : Int32) (hh : Int64) (S : Nat → Int64) (P : Nat → Int64) (q : Int32)  : sw_M l G yX10_fails wsX10_fails ({ frames := 0, cells := 0, slots := 0, locals := 0 } : Room) [.ref h0, .int q] [(h0, .inr (10, [.ref b0, .ref b1, .int np, .int th, .long hh])), (b0, .inl (G.2.1.2, 344, .inr (.inl S))), (b1, .inl (G.2.1.2, 1032, .inr (.inl P)))] (sw_QI G (S := Unit) (fun (r : Int32) (_ : Unit) => r = 0) (fun _ => [(h0, .inr (10, [.ref b0, .ref b1, .int np, .int q, .long hh])), (b0, .inl (G.2.1.2, 344, .inr (.inl S))), (b1, .inl (G.2.1.2, 1032, .inr (.inl P)))])) 0 0 := by
  refine sw_start (cc := cX10_fails) (maxL := 2) (ret := some .int) (lv := [(0, .ref h0), (1, .int q)]) (own := RX10) (nm := "fails") (by decide +kernel) rfl rfl rfl rfl (Nat.le_of_ble_eq_true rfl) (fun C F T => ?_)
  have in10 : ∀ w ∈ u_ws RX10 TX10 5, w ∈ wsX10_fails := fun w h => List.mem_cons_of_mem _ (List.mem_append_right _ (h))
  refine sw_aload_n (pc := 0) F dX10_fails_0 rfl 0 rfl ?_
  refine sw_iload_n (pc := 1) F dX10_fails_1 rfl 1 rfl ?_
  refine sw_put (pc := 2) (Cn := RX10) (T := TX10) (N := 5) (ci := 10) (ty0 := tyX10) (ws' := [(h0, .inr (10, [.ref b0, .ref b1, .int np, .int q, .long hh])), (b0, .inl (G.2.1.2, 344, .inr (.inl S))), (b1, .inl (G.2.1.2, 1032, .inr (.inl P)))]) F in10 tyX10_ok nmX10 0 rfl rfl 3 (by decide) rfl (List.mem_of_getElem? (i := 1) rfl) rfl rfl rfl (Nat.le_of_ble_eq_true rfl) dX10_fails_2 rfl ?_
  refine sw_iconst (pc := 5) (v := 0) F dX10_fails_5 rfl ?_
  exact sw_iret (pc := 6) F T rfl rfl () rfl rfl dX10_fails_6
def f_X10_tells_r (a : Int64) : Int32 := a.toInt32
set_option maxHeartbeats 4000000 in
set_option maxRecDepth 100000 in
theorem k_X10_tells (l : Launch) (G : sw_E) (h0 : Nat) (b0 : Nat) (b1 : Nat) (np : Int32) (th : Int32) (hh : Int64) (S : Nat → Int64) (P : Nat → Int64) (a : Int64)  : sw_M l G yX10_tells wsX10_tells ({ frames := 0, cells := 0, slots := 0, locals := 0 } : Room) [.ref h0, .long a] [(h0, .inr (10, [.ref b0, .ref b1, .int np, .int th, .long hh])), (b0, .inl (G.2.1.2, 344, .inr (.inl S))), (b1, .inl (G.2.1.2, 1032, .inr (.inl P)))] (sw_QI G (S := Unit) (fun (r : Int32) (_ : Unit) => r = f_X10_tells_r a) (fun _ => [(h0, .inr (10, [.ref b0, .ref b1, .int np, .int 0, .long hh])), (b0, .inl (G.2.1.2, 344, .inr (.inl S))), (b1, .inl (G.2.1.2, 1032, .inr (.inl P)))])) 0 0 := by
  refine sw_start (cc := cX10_tells) (maxL := 3) (ret := some .int) (lv := [(0, .ref h0), (1, .long a)]) (own := RX10) (nm := "tells") (by decide +kernel) rfl rfl rfl rfl (Nat.le_of_ble_eq_true rfl) (fun C F T => ?_)
  have in10 : ∀ w ∈ u_ws RX10 TX10 5, w ∈ wsX10_tells := fun w h => List.mem_cons_of_mem _ (List.mem_append_right _ (h))
  refine sw_aload_n (pc := 0) F dX10_tells_0 rfl 0 rfl ?_
  refine sw_iconst (pc := 1) (v := 0) F dX10_tells_1 rfl ?_
  refine sw_put (pc := 2) (Cn := RX10) (T := TX10) (N := 5) (ci := 10) (ty0 := tyX10) (ws' := [(h0, .inr (10, [.ref b0, .ref b1, .int np, .int 0, .long hh])), (b0, .inl (G.2.1.2, 344, .inr (.inl S))), (b1, .inl (G.2.1.2, 1032, .inr (.inl P)))]) F in10 tyX10_ok nmX10 0 rfl rfl 3 (by decide) rfl (List.mem_of_getElem? (i := 1) rfl) rfl rfl rfl (Nat.le_of_ble_eq_true rfl) dX10_tells_2 rfl ?_
  refine sw_lload_n (pc := 5) F dX10_tells_5 rfl 1 rfl ?_
  refine sw_l2i (pc := 6) F dX10_tells_6 rfl ?_
  exact sw_iret (pc := 7) F T rfl rfl () rfl rfl dX10_tells_7
def f_X10_floor_r (a : Int64) (b : Int64) : Int64 := if (a - a / b * b) = 0 then ((a / b)) else (if 0 ≤ a then (if 0 ≤ b then ((a / b)) else (((a / b) - 1))) else (if 0 ≤ b then (((a / b) - 1)) else ((a / b))))
set_option maxHeartbeats 4000000 in
set_option maxRecDepth 100000 in
theorem k_X10_floor (l : Launch) (G : sw_E) (a : Int64) (b : Int64) (hb : ¬ b = 0) : sw_M l G yX10_floor wsX10_floor ({ frames := 0, cells := 0, slots := 0, locals := 0 } : Room) [.long a, .long b] [] (sw_QL G (S := Unit) (fun (r : Int64) (_ : Unit) => r = f_X10_floor_r a b) (fun _ => [])) 0 0 := by
  refine sw_start (cc := cX10_floor) (maxL := 6) (ret := some .long) (lv := [(0, .long a), (2, .long b)]) (own := RX10) (nm := "floor") (by decide +kernel) rfl rfl rfl rfl (Nat.le_of_ble_eq_true rfl) (fun C F T => ?_)
  refine sw_lload_n (pc := 0) F dX10_floor_0 rfl 0 rfl ?_
  refine sw_lload_n (pc := 1) F dX10_floor_1 rfl 1 rfl ?_
  refine sw_ldiv (pc := 2) F dX10_floor_2 hb ?_
  refine sw_topl (fun x_1 ex_1 => ?_)
  refine sw_lstore (pc := 3) (lv' := [(4, .long x_1), (0, .long a), (2, .long b)]) F T.1 dX10_floor_3 (by decide) rfl ?_
  refine sw_lload_n (pc := 5) F dX10_floor_5 rfl 1 rfl ?_
  refine sw_lload_n (pc := 6) F dX10_floor_6 rfl 2 rfl ?_
  refine sw_lrem (pc := 7) F dX10_floor_7 hb ?_
  refine sw_topl (fun x_2 ex_2 => ?_)
  refine sw_lconst (pc := 8) (v := 0) F dX10_floor_8 rfl ?_
  refine sw_lcmp_eq (pc := 9) (tgt := 45) F dX10_floor_9 dX10_floor_10 (by decide) (fun c_3 => ?_) (fun c_3 => ?_)
  · skip
    refine sw_lload (pc := 45) F dX10_floor_45 0 rfl ?_
    subst ex_2
    subst ex_1
    exact sw_lret (pc := 47) F T () (by unfold f_X10_floor_r; rw [if_pos c_3]) rfl dX10_floor_47
  · skip
    refine sw_lload_n (pc := 13) F dX10_floor_13 rfl 1 rfl ?_
    refine sw_lconst (pc := 14) (v := 0) F dX10_floor_14 rfl ?_
    refine sw_lcmp_ge (pc := 15) (tgt := 23) F dX10_floor_15 dX10_floor_16 (by decide) (fun c_4 => ?_) (fun c_4 => ?_)
    · skip
      refine sw_iconst (pc := 23) (v := 0) F dX10_floor_23 rfl ?_
      refine sw_lload_n (pc := 24) F dX10_floor_24 rfl 2 rfl ?_
      refine sw_lconst (pc := 25) (v := 0) F dX10_floor_25 rfl ?_
      refine sw_lcmp_ge (pc := 26) (tgt := 34) F dX10_floor_26 dX10_floor_27 (by decide) (fun c_5 => ?_) (fun c_5 => ?_)
      · skip
        refine sw_iconst (pc := 34) (v := 0) F dX10_floor_34 rfl ?_
        refine sw_icmp_eq (pc := 35) (tgt := 45) F dX10_floor_35 (by decide) (fun _ => ?_) (fun c => absurd c (by decide))
        refine sw_lload (pc := 45) F dX10_floor_45 0 rfl ?_
        subst ex_2
        subst ex_1
        exact sw_lret (pc := 47) F T () (by unfold f_X10_floor_r; rw [if_neg c_3, if_pos c_4, if_pos c_5]) rfl dX10_floor_47
      · skip
        refine sw_iconst (pc := 30) (v := 1) F dX10_floor_30 rfl ?_
        refine sw_goto (pc := 31) (tgt := 35) F dX10_floor_31 (by decide) ?_
        refine sw_icmp_eq (pc := 35) (tgt := 45) F dX10_floor_35 (by decide) (fun c => absurd c (by decide)) (fun _ => ?_)
        refine sw_lload (pc := 38) F dX10_floor_38 0 rfl ?_
        refine sw_lconst (pc := 40) (v := 1) F dX10_floor_40 rfl ?_
        refine sw_lsub (pc := 41) F dX10_floor_41 ?_
        refine sw_topl (fun x_6 ex_6 => ?_)
        refine sw_goto (pc := 42) (tgt := 47) F dX10_floor_42 (by decide) ?_
        subst ex_6
        subst ex_2
        subst ex_1
        exact sw_lret (pc := 47) F T () (by unfold f_X10_floor_r; rw [if_neg c_3, if_pos c_4, if_neg c_5]) rfl dX10_floor_47
    · skip
      refine sw_iconst (pc := 19) (v := 1) F dX10_floor_19 rfl ?_
      refine sw_goto (pc := 20) (tgt := 24) F dX10_floor_20 (by decide) ?_
      refine sw_lload_n (pc := 24) F dX10_floor_24 rfl 2 rfl ?_
      refine sw_lconst (pc := 25) (v := 0) F dX10_floor_25 rfl ?_
      refine sw_lcmp_ge (pc := 26) (tgt := 34) F dX10_floor_26 dX10_floor_27 (by decide) (fun c_7 => ?_) (fun c_7 => ?_)
      · skip
        refine sw_iconst (pc := 34) (v := 0) F dX10_floor_34 rfl ?_
        refine sw_icmp_eq (pc := 35) (tgt := 45) F dX10_floor_35 (by decide) (fun c => absurd c (by decide)) (fun _ => ?_)
        refine sw_lload (pc := 38) F dX10_floor_38 0 rfl ?_
        refine sw_lconst (pc := 40) (v := 1) F dX10_floor_40 rfl ?_
        refine sw_lsub (pc := 41) F dX10_floor_41 ?_
        refine sw_topl (fun x_8 ex_8 => ?_)
        refine sw_goto (pc := 42) (tgt := 47) F dX10_floor_42 (by decide) ?_
        subst ex_8
        subst ex_2
        subst ex_1
        exact sw_lret (pc := 47) F T () (by unfold f_X10_floor_r; rw [if_neg c_3, if_neg c_4, if_pos c_7]) rfl dX10_floor_47
      · skip
        refine sw_iconst (pc := 30) (v := 1) F dX10_floor_30 rfl ?_
        refine sw_goto (pc := 31) (tgt := 35) F dX10_floor_31 (by decide) ?_
        refine sw_icmp_eq (pc := 35) (tgt := 45) F dX10_floor_35 (by decide) (fun _ => ?_) (fun c => absurd c (by decide))
        refine sw_lload (pc := 45) F dX10_floor_45 0 rfl ?_
        subst ex_2
        subst ex_1
        exact sw_lret (pc := 47) F T () (by unfold f_X10_floor_r; rw [if_neg c_3, if_neg c_4, if_neg c_7]) rfl dX10_floor_47
theorem in_b (a b c : Int64) : f_X10_in_r a b c = 0 ∨ f_X10_in_r a b c = 1 := by
  unfold f_X10_in_r
  split
  · exact Or.inl rfl
  · split
    · exact Or.inl rfl
    · exact Or.inr rfl
def f_X10_isTransmitter_r (q : Int32) : Int32 := (f_X10_in_r q.toInt64 0 3)
set_option maxHeartbeats 4000000 in
set_option maxRecDepth 100000 in
theorem k_X10_isTransmitter (l : Launch) (G : sw_E) (q : Int32)  : sw_M l G yX10_isTransmitter wsX10_isTransmitter ({ frames := 1, cells := 0, slots := 0, locals := 25 } : Room) [.int q] [] (sw_QI G (S := Unit) (fun (r : Int32) (_ : Unit) => r = f_X10_isTransmitter_r q) (fun _ => [])) 0 0 := by
  refine sw_start (cc := cX10_isTransmitter) (maxL := 1) (ret := some .boolean) (lv := [(0, .int q)]) (own := RX10) (nm := "isTransmitter") (by decide +kernel) rfl rfl rfl rfl (Nat.le_of_ble_eq_true rfl) (fun C F T => ?_)
  refine sw_iload_n (pc := 0) F dX10_isTransmitter_0 rfl 0 rfl ?_
  refine sw_i2l (pc := 1) F dX10_isTransmitter_1 rfl ?_
  refine sw_lconst (pc := 2) (v := 0) F dX10_isTransmitter_2 rfl ?_
  refine sw_ldc2 (pc := 3) (v := 3) F (List.mem_of_getElem? (i := 1) rfl) dX10_isTransmitter_3 ?_
  refine sw_calli (pc := 6) (wr := []) (k' := 0) (n' := 0) F (sw_runS (R := ({ frames := 1, cells := 0, slots := 0, locals := 25 } : Room)) (na := 3) F T.2.1 T.2.2.1 (k_X10_in l G q.toInt64 0 3) [] rfl (by decide) gX10_isTransmitter_X10_in rfl rfl rfl (by decide +kernel) ⟨Nat.le_of_ble_eq_true rfl, Nat.le_of_ble_eq_true rfl⟩ rfl rfl (Nat.le_of_ble_eq_true rfl) dX10_isTransmitter_6 (Nat.le_of_ble_eq_true rfl) (Nat.le_of_ble_eq_true rfl)) [] [] rfl rfl (by decide) (by decide) rfl rfl (fun r_1 u_2 h_3 => ?_)
  have e_4 : r_1 = f_X10_in_r q.toInt64 0 3 := h_3
  refine sw_eq (ws' := []) (lv' := [(0, .int q)]) (st' := [.int r_1]) rfl rfl rfl ?_
  subst e_4
  exact sw_iret (pc := 9) F T rfl (sw_nb (in_b _ _ _)).1 () rfl rfl dX10_isTransmitter_9
def f_X10_logs_o1 (S : Nat → Int64) (q : Int32) (v : Int64) : Nat → Int64 := (vp_updL (vp_updL (vp_updL (md_comes 253 3 30 87 S) (md_at 253 3 30 S) ((md_comes 253 3 30 87 S) 0)) ((md_at 253 3 30 S) + 1) q.toInt64) ((md_at 253 3 30 S) + 2) v)
set_option maxHeartbeats 4000000 in
set_option maxRecDepth 100000 in
theorem k_X10_logs (l : Launch) (G : sw_E) (h0 : Nat) (b0 : Nat) (b1 : Nat) (np : Int32) (th : Int32) (hh : Int64) (S : Nat → Int64) (P : Nat → Int64) (q : Int32) (v : Int64) (hc : 0 ≤ (S 253).toInt ∧ (S 253).toInt ≤ 30) : sw_M l G yX10_logs wsX10_logs ({ frames := 1, cells := 0, slots := 0, locals := 24 } : Room) [.ref h0, .int q, .long v] [(h0, .inr (10, [.ref b0, .ref b1, .int np, .int th, .long hh])), (b0, .inl (G.2.1.2, 344, .inr (.inl S))), (b1, .inl (G.2.1.2, 1032, .inr (.inl P)))] (sw_QV G (S := (Nat → Int64)) (fun (u : (Nat → Int64)) => u = f_X10_logs_o1 S q v) (fun u => [(h0, .inr (10, [.ref b0, .ref b1, .int np, .int th, .long hh])), (b0, .inl (G.2.1.2, 344, .inr (.inl u))), (b1, .inl (G.2.1.2, 1032, .inr (.inl P)))])) 0 0 := by
  refine sw_start (cc := cX10_logs) (maxL := 5) (ret := none) (lv := [(0, .ref h0), (1, .int q), (2, .long v)]) (own := RX10) (nm := "logs") (by decide +kernel) rfl rfl rfl rfl (Nat.le_of_ble_eq_true rfl) (fun C F T => ?_)
  have in10 : ∀ w ∈ u_ws RX10 TX10 5, w ∈ wsX10_logs := fun w h => List.mem_cons_of_mem _ (List.mem_append_right _ (h))
  have hb := md_at_le (b := 253) (w := 3) (most := 30) (S := S) (by decide) hc.2
  refine sw_aload_n (pc := 0) F dX10_logs_0 rfl 0 rfl ?_
  refine sw_sipush (pc := 1) (v := 253) F dX10_logs_1 rfl ?_
  refine sw_iconst (pc := 4) (v := 3) F dX10_logs_4 rfl ?_
  refine sw_bipush (pc := 5) (v := 30) F dX10_logs_5 rfl ?_
  refine sw_calli (pc := 7) (wr := []) (k' := 0) (n' := 0) F (sw_runV (R := ({ frames := 1, cells := 0, slots := 0, locals := 24 } : Room)) (q0 := 0) (na := 3) F T.2.1 T.2.2.1 (k_X10_comes_253 l G h0 b0 b1 np th hh S P (by assumption)) [0, 1, 2] rfl (by decide) gX10_logs_X10_comes rfl rfl rfl (by decide +kernel) ⟨Nat.le_of_ble_eq_true rfl, Nat.le_of_ble_eq_true rfl⟩ rfl rfl rfl rfl rfl (Nat.le_of_ble_eq_true rfl) dX10_logs_7 (Nat.le_of_ble_eq_true rfl) (Nat.le_of_ble_eq_true rfl)) [0, 1, 2] [] rfl rfl (by decide) (by decide) rfl rfl (fun r_1 u_2 h_3 => ?_)
  obtain ⟨o_4, eu_2⟩ : ∃ z, z = u_2 := ⟨_, rfl⟩; subst eu_2
  obtain ⟨e_5, e_6⟩ : r_1 = nI (md_at 253 3 30 S) ∧ o_4 = md_comes 253 3 30 87 S := h_3
  refine sw_eq (ws' := [(h0, .inr (10, [.ref b0, .ref b1, .int np, .int th, .long hh])), (b0, .inl (G.2.1.2, 344, .inr (.inl o_4))), (b1, .inl (G.2.1.2, 1032, .inr (.inl P)))]) (lv' := [(0, .ref h0), (1, .int q), (2, .long v)]) (st' := [.int r_1]) rfl rfl rfl ?_
  refine sw_istore (pc := 10) (lv' := [(4, .int r_1), (0, .ref h0), (1, .int q), (2, .long v)]) F T.1 dX10_logs_10 (by decide) rfl ?_
  refine sw_aload_n (pc := 12) F dX10_logs_12 rfl 1 rfl ?_
  refine sw_get (pc := 13) (Cn := RX10) (T := TX10) (N := 5) (ci := 10) (v := .ref b0) F in10 0 rfl rfl 0 (by decide) rfl (List.mem_of_getElem? (i := 1) rfl) rfl dX10_logs_13 ?_
  refine sw_iload (pc := 16) F dX10_logs_16 0 rfl ?_
  refine sw_aload_n (pc := 18) F dX10_logs_18 rfl 1 rfl ?_
  refine sw_get (pc := 19) (Cn := RX10) (T := TX10) (N := 5) (ci := 10) (v := .ref b0) F in10 0 rfl rfl 0 (by decide) rfl (List.mem_of_getElem? (i := 1) rfl) rfl dX10_logs_19 ?_
  refine sw_iconst (pc := 22) (v := 0) F dX10_logs_22 rfl ?_
  refine sw_lald (pc := 23) F 1 rfl (sw_in rfl) dX10_logs_23 ?_
  refine sw_naml (e := o_4 0) rfl (fun x_7 ex_7 => ?_)
  obtain ⟨f_8, ef_8⟩ : ∃ y : Nat → Int64, y = vp_updL o_4 (md_at 253 3 30 S) x_7 := ⟨_, rfl⟩
  refine sw_last (pc := 24) (ws' := [(h0, .inr (10, [.ref b0, .ref b1, .int np, .int th, .long hh])), (b0, .inl (G.2.1.2, 344, .inr (.inl f_8))), (b1, .inl (G.2.1.2, 1032, .inr (.inl P)))]) F 1 rfl (by rw [e_5]; exact vp_in_nI (by omega) (by decide)) dX10_logs_24 (by rw [ef_8, (show r_1.toNatClampNeg = md_at 253 3 30 S by rw [e_5]; exact nI_clamp (by omega))]; rfl) ?_
  refine sw_aload_n (pc := 25) F dX10_logs_25 rfl 1 rfl ?_
  refine sw_get (pc := 26) (Cn := RX10) (T := TX10) (N := 5) (ci := 10) (v := .ref b0) F in10 0 rfl rfl 0 (by decide) rfl (List.mem_of_getElem? (i := 1) rfl) rfl dX10_logs_26 ?_
  refine sw_iload (pc := 29) F dX10_logs_29 0 rfl ?_
  refine sw_iconst (pc := 31) (v := 1) F dX10_logs_31 rfl ?_
  refine sw_iadd (pc := 32) F dX10_logs_32 ?_
  refine sw_topi (fun x_9 ex_9 => ?_)
  have ix_9 : x_9 = nI ((md_at 253 3 30 S) + 1) := by rw [ex_9, e_5]; exact nI_add (md_at 253 3 30 S) 1
  refine sw_iload_n (pc := 33) F dX10_logs_33 rfl 2 rfl ?_
  refine sw_i2l (pc := 34) F dX10_logs_34 rfl ?_
  obtain ⟨f_10, ef_10⟩ : ∃ y : Nat → Int64, y = vp_updL f_8 ((md_at 253 3 30 S) + 1) q.toInt64 := ⟨_, rfl⟩
  refine sw_last (pc := 35) (ws' := [(h0, .inr (10, [.ref b0, .ref b1, .int np, .int th, .long hh])), (b0, .inl (G.2.1.2, 344, .inr (.inl f_10))), (b1, .inl (G.2.1.2, 1032, .inr (.inl P)))]) F 1 rfl (by rw [ix_9]; exact vp_in_nI (by omega) (by decide)) dX10_logs_35 (by rw [ef_10, (show x_9.toNatClampNeg = (md_at 253 3 30 S) + 1 by rw [ix_9]; exact nI_clamp (by omega))]; rfl) ?_
  refine sw_aload_n (pc := 36) F dX10_logs_36 rfl 1 rfl ?_
  refine sw_get (pc := 37) (Cn := RX10) (T := TX10) (N := 5) (ci := 10) (v := .ref b0) F in10 0 rfl rfl 0 (by decide) rfl (List.mem_of_getElem? (i := 1) rfl) rfl dX10_logs_37 ?_
  refine sw_iload (pc := 40) F dX10_logs_40 0 rfl ?_
  refine sw_iconst (pc := 42) (v := 2) F dX10_logs_42 rfl ?_
  refine sw_iadd (pc := 43) F dX10_logs_43 ?_
  refine sw_topi (fun x_11 ex_11 => ?_)
  have ix_11 : x_11 = nI ((md_at 253 3 30 S) + 2) := by rw [ex_11, e_5]; exact nI_add (md_at 253 3 30 S) 2
  refine sw_lload_n (pc := 44) F dX10_logs_44 rfl 3 rfl ?_
  obtain ⟨f_12, ef_12⟩ : ∃ y : Nat → Int64, y = vp_updL f_10 ((md_at 253 3 30 S) + 2) v := ⟨_, rfl⟩
  refine sw_last (pc := 45) (ws' := [(h0, .inr (10, [.ref b0, .ref b1, .int np, .int th, .long hh])), (b0, .inl (G.2.1.2, 344, .inr (.inl f_12))), (b1, .inl (G.2.1.2, 1032, .inr (.inl P)))]) F 1 rfl (by rw [ix_11]; exact vp_in_nI (by omega) (by decide)) dX10_logs_45 (by rw [ef_12, (show x_11.toNatClampNeg = (md_at 253 3 30 S) + 2 by rw [ix_11]; exact nI_clamp (by omega))]; rfl) ?_
  subst ef_12
  subst ex_11
  subst ef_10
  subst ex_9
  subst ef_8
  subst ex_7
  subst e_6
  subst e_5
  exact sw_vret (pc := 46) F T ((vp_updL (vp_updL (vp_updL (md_comes 253 3 30 87 S) (md_at 253 3 30 S) ((md_comes 253 3 30 87 S) 0)) ((md_at 253 3 30 S) + 1) q.toInt64) ((md_at 253 3 30 S) + 2) v)) rfl rfl dX10_logs_46
def f_X10_sets_o0_2 (Nn : Nat) : Int32 := (nI (if Nn = 3 then 3 else Nn + 1))
def f_X10_sets_o1 (S : Nat → Int64) (Nk : Nat) (v : Int64) (q : Int32) : Nat → Int64 := (f_X10_logs_o1 (vp_updL S Nk v) 5 q.toInt64)
def f_X10_sets_o2 (S : Nat → Int64) (P : Nat → Int64) (Nn : Nat) : Nat → Int64 := (md_save Nn S P)
def f_X10_sets_r (S : Nat → Int64) (Nk : Nat) : Int32 := (S Nk).toInt32
set_option maxHeartbeats 4000000 in
set_option maxRecDepth 100000 in
theorem k_X10_sets (l : Launch) (G : sw_E) (h0 : Nat) (b0 : Nat) (b1 : Nat) (np : Int32) (th : Int32) (hh : Int64) (S : Nat → Int64) (P : Nat → Int64) (Nn : Nat) (k : Int32) (Nk : Nat) (v : Int64) (q : Int32) (hnp : np = nI Nn) (hNn : Nn < 4) (hk : k = nI Nk) (hNk : Nk < 63) (hc : 0 ≤ (S 253).toInt ∧ (S 253).toInt ≤ 30) : sw_M l G yX10_sets wsX10_sets ({ frames := 2, cells := 0, slots := 0, locals := 48 } : Room) [.ref h0, .int k, .long v, .int q] [(h0, .inr (10, [.ref b0, .ref b1, .int np, .int th, .long hh])), (b0, .inl (G.2.1.2, 344, .inr (.inl S))), (b1, .inl (G.2.1.2, 1032, .inr (.inl P)))] (sw_QI G (S := Int32 × (Nat → Int64) × (Nat → Int64)) (fun (r : Int32) (u : Int32 × (Nat → Int64) × (Nat → Int64)) => r = f_X10_sets_r S Nk ∧ u.1 = f_X10_sets_o0_2 Nn ∧ u.2.1 = f_X10_sets_o1 S Nk v q ∧ u.2.2 = f_X10_sets_o2 S P Nn) (fun u => [(h0, .inr (10, [.ref b0, .ref b1, .int u.1, .int 0, .long hh])), (b0, .inl (G.2.1.2, 344, .inr (.inl u.2.1))), (b1, .inl (G.2.1.2, 1032, .inr (.inl u.2.2)))])) 0 0 := by
  refine sw_start (cc := cX10_sets) (maxL := 6) (ret := some .int) (lv := [(0, .ref h0), (1, .int k), (2, .long v), (4, .int q)]) (own := RX10) (nm := "sets") (by decide +kernel) rfl rfl rfl rfl (Nat.le_of_ble_eq_true rfl) (fun C F T => ?_)
  have in10 : ∀ w ∈ u_ws RX10 TX10 5, w ∈ wsX10_sets := fun w h => List.mem_cons_of_mem _ (List.mem_append_right _ (h))
  refine sw_aload_n (pc := 0) F dX10_sets_0 rfl 0 rfl ?_
  refine sw_callv (pc := 1) (wr := []) (k' := 0) (n' := 0) F (sw_runV (R := ({ frames := 2, cells := 0, slots := 0, locals := 48 } : Room)) (q0 := 0) (na := 0) F T.2.1 T.2.2.1 (k_X10_save l G h0 b0 b1 np th hh S P Nn hnp (by omega)) [0, 1, 2] rfl (by decide) gX10_sets_X10_save rfl rfl rfl (by decide +kernel) ⟨Nat.le_of_ble_eq_true rfl, Nat.le_of_ble_eq_true rfl⟩ rfl rfl rfl rfl rfl (Nat.le_of_ble_eq_true rfl) dX10_sets_1 (Nat.le_of_ble_eq_true rfl) (Nat.le_of_ble_eq_true rfl)) [0, 1, 2] [] rfl rfl (by decide) (by decide) rfl rfl (fun u_2 h_3 => ?_)
  obtain ⟨o_4, o_5⟩ := u_2
  obtain ⟨e_6, e_7⟩ : o_4 = nI (if Nn = 3 then 3 else Nn + 1) ∧ o_5 = md_save Nn S P := h_3
  refine sw_eq (ws' := [(h0, .inr (10, [.ref b0, .ref b1, .int o_4, .int 0, .long hh])), (b0, .inl (G.2.1.2, 344, .inr (.inl S))), (b1, .inl (G.2.1.2, 1032, .inr (.inl o_5)))]) (lv' := [(0, .ref h0), (1, .int k), (2, .long v), (4, .int q)]) (st' := []) rfl rfl rfl ?_
  refine sw_aload_n (pc := 4) F dX10_sets_4 rfl 0 rfl ?_
  refine sw_get (pc := 5) (Cn := RX10) (T := TX10) (N := 5) (ci := 10) (v := .ref b0) F in10 0 rfl rfl 0 (by decide) rfl (List.mem_of_getElem? (i := 1) rfl) rfl dX10_sets_5 ?_
  refine sw_iload_n (pc := 8) F dX10_sets_8 rfl 1 rfl ?_
  refine sw_lald (pc := 9) F 1 rfl (by rw [hk]; exact vp_in_nI (by omega) (by decide)) dX10_sets_9 ?_
  refine sw_naml (e := S Nk) (by rw [(show k.toNatClampNeg = Nk by rw [hk]; exact nI_clamp (by omega))]) (fun x_8 ex_8 => ?_)
  refine sw_l2i (pc := 10) F dX10_sets_10 rfl ?_
  refine sw_istore (pc := 11) (lv' := [(5, .int x_8.toInt32), (0, .ref h0), (1, .int k), (2, .long v), (4, .int q)]) F T.1 dX10_sets_11 (by decide) rfl ?_
  refine sw_aload_n (pc := 13) F dX10_sets_13 rfl 1 rfl ?_
  refine sw_get (pc := 14) (Cn := RX10) (T := TX10) (N := 5) (ci := 10) (v := .ref b0) F in10 0 rfl rfl 0 (by decide) rfl (List.mem_of_getElem? (i := 1) rfl) rfl dX10_sets_14 ?_
  refine sw_iload_n (pc := 17) F dX10_sets_17 rfl 2 rfl ?_
  refine sw_lload_n (pc := 18) F dX10_sets_18 rfl 3 rfl ?_
  obtain ⟨f_9, ef_9⟩ : ∃ y : Nat → Int64, y = vp_updL S Nk v := ⟨_, rfl⟩
  refine sw_last (pc := 19) (ws' := [(h0, .inr (10, [.ref b0, .ref b1, .int o_4, .int 0, .long hh])), (b0, .inl (G.2.1.2, 344, .inr (.inl f_9))), (b1, .inl (G.2.1.2, 1032, .inr (.inl o_5)))]) F 1 rfl (by rw [hk]; exact vp_in_nI (by omega) (by decide)) dX10_sets_19 (by rw [ef_9, (show k.toNatClampNeg = Nk by rw [hk]; exact nI_clamp (by omega))]; rfl) ?_
  refine sw_aload_n (pc := 20) F dX10_sets_20 rfl 1 rfl ?_
  refine sw_iconst (pc := 21) (v := 5) F dX10_sets_21 rfl ?_
  refine sw_iload (pc := 22) F dX10_sets_22 4 rfl ?_
  refine sw_i2l (pc := 24) F dX10_sets_24 rfl ?_
  refine sw_callv (pc := 25) (wr := []) (k' := 0) (n' := 0) F (sw_runV (R := ({ frames := 2, cells := 0, slots := 0, locals := 48 } : Room)) (q0 := 0) (na := 2) F T.2.1 T.2.2.1 (k_X10_logs l G h0 b0 b1 o_4 0 hh f_9 o_5 5 q.toInt64 (by rw [ef_9, pk_uLn (by omega)]; exact hc)) [0, 1, 2] rfl (by decide) gX10_sets_X10_logs rfl rfl rfl (by decide +kernel) ⟨Nat.le_of_ble_eq_true rfl, Nat.le_of_ble_eq_true rfl⟩ rfl rfl rfl rfl rfl (Nat.le_of_ble_eq_true rfl) dX10_sets_25 (Nat.le_of_ble_eq_true rfl) (Nat.le_of_ble_eq_true rfl)) [0, 1, 2] [] rfl rfl (by decide) (by decide) rfl rfl (fun u_11 h_12 => ?_)
  obtain ⟨o_13, eu_11⟩ : ∃ z, z = u_11 := ⟨_, rfl⟩; subst eu_11
  have e_14 : o_13 = f_X10_logs_o1 f_9 5 q.toInt64 := h_12
  refine sw_eq (ws' := [(h0, .inr (10, [.ref b0, .ref b1, .int o_4, .int 0, .long hh])), (b0, .inl (G.2.1.2, 344, .inr (.inl o_13))), (b1, .inl (G.2.1.2, 1032, .inr (.inl o_5)))]) (lv' := [(5, .int x_8.toInt32), (0, .ref h0), (1, .int k), (2, .long v), (4, .int q)]) (st' := []) rfl rfl rfl ?_
  refine sw_iload (pc := 28) F dX10_sets_28 0 rfl ?_
  subst e_14
  subst ef_9
  subst ex_8
  subst e_7
  subst e_6
  exact sw_iret (pc := 30) F T rfl rfl ((nI (if Nn = 3 then 3 else Nn + 1)), (f_X10_logs_o1 (vp_updL S Nk v) 5 q.toInt64), (md_save Nn S P)) ⟨rfl, rfl, rfl, rfl⟩ rfl dX10_sets_30
set_option maxHeartbeats 4000000 in
set_option maxRecDepth 100000 in
theorem k_X10_flowAt_0 (l : Launch) (G : sw_E)   : sw_M l G yX10_flowAt wsX10_flowAt ({ frames := 0, cells := 0, slots := 0, locals := 0 } : Room) [.int 0] [] (sw_QL G (S := Unit) (fun (r : Int64) (_ : Unit) => r = 0) (fun _ => [])) 0 0 := by
  refine sw_start (cc := cX10_flowAt) (maxL := 1) (ret := some .long) (lv := [(0, .int 0)]) (own := RX10) (nm := "flowAt") (by decide +kernel) rfl rfl rfl rfl (Nat.le_of_ble_eq_true rfl) (fun C F T => ?_)
  refine sw_iload_n (pc := 0) F dX10_flowAt_0 rfl 0 rfl ?_
  refine sw_if_ne (pc := 1) (tgt := 8) F dX10_flowAt_1 (by decide) (fun c => absurd c (by decide)) (fun _ => ?_)
  refine sw_lconst (pc := 4) (v := 0) F dX10_flowAt_4 rfl ?_
  refine sw_goto (pc := 5) (tgt := 44) F dX10_flowAt_5 (by decide) ?_
  exact sw_lret (pc := 44) F T () rfl rfl dX10_flowAt_44
set_option maxHeartbeats 4000000 in
set_option maxRecDepth 100000 in
theorem k_X10_flowAt_1 (l : Launch) (G : sw_E)   : sw_M l G yX10_flowAt wsX10_flowAt ({ frames := 0, cells := 0, slots := 0, locals := 0 } : Room) [.int 1] [] (sw_QL G (S := Unit) (fun (r : Int64) (_ : Unit) => r = 1000) (fun _ => [])) 0 0 := by
  refine sw_start (cc := cX10_flowAt) (maxL := 1) (ret := some .long) (lv := [(0, .int 1)]) (own := RX10) (nm := "flowAt") (by decide +kernel) rfl rfl rfl rfl (Nat.le_of_ble_eq_true rfl) (fun C F T => ?_)
  refine sw_iload_n (pc := 0) F dX10_flowAt_0 rfl 0 rfl ?_
  refine sw_if_ne (pc := 1) (tgt := 8) F dX10_flowAt_1 (by decide) (fun _ => ?_) (fun c => absurd c (by decide))
  refine sw_iload_n (pc := 8) F dX10_flowAt_8 rfl 0 rfl ?_
  refine sw_iconst (pc := 9) (v := 1) F dX10_flowAt_9 rfl ?_
  refine sw_icmp_ne (pc := 10) (tgt := 19) F dX10_flowAt_10 (by decide) (fun c => absurd c (by decide)) (fun _ => ?_)
  refine sw_ldc2 (pc := 13) (v := 1000) F (List.mem_of_getElem? (i := 1) rfl) dX10_flowAt_13 ?_
  refine sw_goto (pc := 16) (tgt := 44) F dX10_flowAt_16 (by decide) ?_
  exact sw_lret (pc := 44) F T () rfl rfl dX10_flowAt_44
set_option maxHeartbeats 4000000 in
set_option maxRecDepth 100000 in
theorem k_X10_flowAt_2 (l : Launch) (G : sw_E)   : sw_M l G yX10_flowAt wsX10_flowAt ({ frames := 0, cells := 0, slots := 0, locals := 0 } : Room) [.int 2] [] (sw_QL G (S := Unit) (fun (r : Int64) (_ : Unit) => r = 3000) (fun _ => [])) 0 0 := by
  refine sw_start (cc := cX10_flowAt) (maxL := 1) (ret := some .long) (lv := [(0, .int 2)]) (own := RX10) (nm := "flowAt") (by decide +kernel) rfl rfl rfl rfl (Nat.le_of_ble_eq_true rfl) (fun C F T => ?_)
  refine sw_iload_n (pc := 0) F dX10_flowAt_0 rfl 0 rfl ?_
  refine sw_if_ne (pc := 1) (tgt := 8) F dX10_flowAt_1 (by decide) (fun _ => ?_) (fun c => absurd c (by decide))
  refine sw_iload_n (pc := 8) F dX10_flowAt_8 rfl 0 rfl ?_
  refine sw_iconst (pc := 9) (v := 1) F dX10_flowAt_9 rfl ?_
  refine sw_icmp_ne (pc := 10) (tgt := 19) F dX10_flowAt_10 (by decide) (fun _ => ?_) (fun c => absurd c (by decide))
  refine sw_iload_n (pc := 19) F dX10_flowAt_19 rfl 0 rfl ?_
  refine sw_iconst (pc := 20) (v := 2) F dX10_flowAt_20 rfl ?_
  refine sw_icmp_ne (pc := 21) (tgt := 30) F dX10_flowAt_21 (by decide) (fun c => absurd c (by decide)) (fun _ => ?_)
  refine sw_ldc2 (pc := 24) (v := 3000) F (List.mem_of_getElem? (i := 2) rfl) dX10_flowAt_24 ?_
  refine sw_goto (pc := 27) (tgt := 44) F dX10_flowAt_27 (by decide) ?_
  exact sw_lret (pc := 44) F T () rfl rfl dX10_flowAt_44
set_option maxHeartbeats 4000000 in
set_option maxRecDepth 100000 in
theorem k_X10_flowAt_3 (l : Launch) (G : sw_E)   : sw_M l G yX10_flowAt wsX10_flowAt ({ frames := 0, cells := 0, slots := 0, locals := 0 } : Room) [.int 3] [] (sw_QL G (S := Unit) (fun (r : Int64) (_ : Unit) => r = 10000) (fun _ => [])) 0 0 := by
  refine sw_start (cc := cX10_flowAt) (maxL := 1) (ret := some .long) (lv := [(0, .int 3)]) (own := RX10) (nm := "flowAt") (by decide +kernel) rfl rfl rfl rfl (Nat.le_of_ble_eq_true rfl) (fun C F T => ?_)
  refine sw_iload_n (pc := 0) F dX10_flowAt_0 rfl 0 rfl ?_
  refine sw_if_ne (pc := 1) (tgt := 8) F dX10_flowAt_1 (by decide) (fun _ => ?_) (fun c => absurd c (by decide))
  refine sw_iload_n (pc := 8) F dX10_flowAt_8 rfl 0 rfl ?_
  refine sw_iconst (pc := 9) (v := 1) F dX10_flowAt_9 rfl ?_
  refine sw_icmp_ne (pc := 10) (tgt := 19) F dX10_flowAt_10 (by decide) (fun _ => ?_) (fun c => absurd c (by decide))
  refine sw_iload_n (pc := 19) F dX10_flowAt_19 rfl 0 rfl ?_
  refine sw_iconst (pc := 20) (v := 2) F dX10_flowAt_20 rfl ?_
  refine sw_icmp_ne (pc := 21) (tgt := 30) F dX10_flowAt_21 (by decide) (fun _ => ?_) (fun c => absurd c (by decide))
  refine sw_iload_n (pc := 30) F dX10_flowAt_30 rfl 0 rfl ?_
  refine sw_iconst (pc := 31) (v := 3) F dX10_flowAt_31 rfl ?_
  refine sw_icmp_ne (pc := 32) (tgt := 41) F dX10_flowAt_32 (by decide) (fun c => absurd c (by decide)) (fun _ => ?_)
  refine sw_ldc2 (pc := 35) (v := 10000) F (List.mem_of_getElem? (i := 3) rfl) dX10_flowAt_35 ?_
  refine sw_goto (pc := 38) (tgt := 44) F dX10_flowAt_38 (by decide) ?_
  exact sw_lret (pc := 44) F T () rfl rfl dX10_flowAt_44
set_option maxHeartbeats 4000000 in
set_option maxRecDepth 100000 in
theorem k_X10_flowAt_4 (l : Launch) (G : sw_E)   : sw_M l G yX10_flowAt wsX10_flowAt ({ frames := 0, cells := 0, slots := 0, locals := 0 } : Room) [.int 4] [] (sw_QL G (S := Unit) (fun (r : Int64) (_ : Unit) => r = 30000) (fun _ => [])) 0 0 := by
  refine sw_start (cc := cX10_flowAt) (maxL := 1) (ret := some .long) (lv := [(0, .int 4)]) (own := RX10) (nm := "flowAt") (by decide +kernel) rfl rfl rfl rfl (Nat.le_of_ble_eq_true rfl) (fun C F T => ?_)
  refine sw_iload_n (pc := 0) F dX10_flowAt_0 rfl 0 rfl ?_
  refine sw_if_ne (pc := 1) (tgt := 8) F dX10_flowAt_1 (by decide) (fun _ => ?_) (fun c => absurd c (by decide))
  refine sw_iload_n (pc := 8) F dX10_flowAt_8 rfl 0 rfl ?_
  refine sw_iconst (pc := 9) (v := 1) F dX10_flowAt_9 rfl ?_
  refine sw_icmp_ne (pc := 10) (tgt := 19) F dX10_flowAt_10 (by decide) (fun _ => ?_) (fun c => absurd c (by decide))
  refine sw_iload_n (pc := 19) F dX10_flowAt_19 rfl 0 rfl ?_
  refine sw_iconst (pc := 20) (v := 2) F dX10_flowAt_20 rfl ?_
  refine sw_icmp_ne (pc := 21) (tgt := 30) F dX10_flowAt_21 (by decide) (fun _ => ?_) (fun c => absurd c (by decide))
  refine sw_iload_n (pc := 30) F dX10_flowAt_30 rfl 0 rfl ?_
  refine sw_iconst (pc := 31) (v := 3) F dX10_flowAt_31 rfl ?_
  refine sw_icmp_ne (pc := 32) (tgt := 41) F dX10_flowAt_32 (by decide) (fun _ => ?_) (fun c => absurd c (by decide))
  refine sw_ldc2 (pc := 41) (v := 30000) F (List.mem_of_getElem? (i := 4) rfl) dX10_flowAt_41 ?_
  exact sw_lret (pc := 44) F T () rfl rfl dX10_flowAt_44
def f_X10_readingOf_r (S : Nat → Int64) (Nt : Nat) (t : Int32) : Int64 := if t = 3 then (((-500) + (f_X10_floor_r ((S (6 + Nt)) * ((S (14 + Nt)) - 13107)) 52428))) else ((0 + (f_X10_floor_r ((S (6 + Nt)) * ((S (14 + Nt)) - 13107)) 52428)))
set_option maxHeartbeats 4000000 in
set_option maxRecDepth 100000 in
theorem k_X10_readingOf (l : Launch) (G : sw_E) (h0 : Nat) (b0 : Nat) (b1 : Nat) (np : Int32) (th : Int32) (hh : Int64) (S : Nat → Int64) (P : Nat → Int64) (Nt : Nat) (t : Int32) (ht : t = nI Nt) (hNt : Nt < 4) : sw_M l G yX10_readingOf wsX10_readingOf ({ frames := 1, cells := 0, slots := 0, locals := 25 } : Room) [.ref h0, .int t] [(h0, .inr (10, [.ref b0, .ref b1, .int np, .int th, .long hh])), (b0, .inl (G.2.1.2, 344, .inr (.inl S))), (b1, .inl (G.2.1.2, 1032, .inr (.inl P)))] (sw_QL G (S := Unit) (fun (r : Int64) (_ : Unit) => r = f_X10_readingOf_r S Nt t) (fun _ => [(h0, .inr (10, [.ref b0, .ref b1, .int np, .int th, .long hh])), (b0, .inl (G.2.1.2, 344, .inr (.inl S))), (b1, .inl (G.2.1.2, 1032, .inr (.inl P)))])) 0 0 := by
  refine sw_start (cc := cX10_readingOf) (maxL := 2) (ret := some .long) (lv := [(0, .ref h0), (1, .int t)]) (own := RX10) (nm := "readingOf") (by decide +kernel) rfl rfl rfl rfl (Nat.le_of_ble_eq_true rfl) (fun C F T => ?_)
  have in10 : ∀ w ∈ u_ws RX10 TX10 5, w ∈ wsX10_readingOf := fun w h => List.mem_cons_of_mem _ (List.mem_append_right _ (h))
  refine sw_iload_n (pc := 0) F dX10_readingOf_0 rfl 1 rfl ?_
  refine sw_iconst (pc := 1) (v := 3) F dX10_readingOf_1 rfl ?_
  refine sw_icmp_ne (pc := 2) (tgt := 11) F dX10_readingOf_2 (by decide) (fun c_1 => ?_) (fun c_1 => ?_)
  · skip
    refine sw_lconst (pc := 11) (v := 0) F dX10_readingOf_11 rfl ?_
    refine sw_aload_n (pc := 12) F dX10_readingOf_12 rfl 0 rfl ?_
    refine sw_get (pc := 13) (Cn := RX10) (T := TX10) (N := 5) (ci := 10) (v := .ref b0) F in10 0 rfl rfl 0 (by decide) rfl (List.mem_of_getElem? (i := 2) rfl) rfl dX10_readingOf_13 ?_
    refine sw_bipush (pc := 16) (v := 6) F dX10_readingOf_16 rfl ?_
    refine sw_iload_n (pc := 18) F dX10_readingOf_18 rfl 1 rfl ?_
    refine sw_iadd (pc := 19) F dX10_readingOf_19 ?_
    refine sw_topi (fun x_2 ex_2 => ?_)
    have ix_2 : x_2 = nI (6 + Nt) := by rw [ex_2, ht]; exact nI_add 6 Nt
    refine sw_lald (pc := 20) F 1 rfl (by rw [ix_2]; exact vp_in_nI (by omega) (by decide)) dX10_readingOf_20 ?_
    refine sw_naml (e := S (6 + Nt)) (by rw [(show x_2.toNatClampNeg = 6 + Nt by rw [ix_2]; exact nI_clamp (by omega))]) (fun x_3 ex_3 => ?_)
    refine sw_aload_n (pc := 21) F dX10_readingOf_21 rfl 0 rfl ?_
    refine sw_get (pc := 22) (Cn := RX10) (T := TX10) (N := 5) (ci := 10) (v := .ref b0) F in10 0 rfl rfl 0 (by decide) rfl (List.mem_of_getElem? (i := 2) rfl) rfl dX10_readingOf_22 ?_
    refine sw_bipush (pc := 25) (v := 14) F dX10_readingOf_25 rfl ?_
    refine sw_iload_n (pc := 27) F dX10_readingOf_27 rfl 1 rfl ?_
    refine sw_iadd (pc := 28) F dX10_readingOf_28 ?_
    refine sw_topi (fun x_4 ex_4 => ?_)
    have ix_4 : x_4 = nI (14 + Nt) := by rw [ex_4, ht]; exact nI_add 14 Nt
    refine sw_lald (pc := 29) F 1 rfl (by rw [ix_4]; exact vp_in_nI (by omega) (by decide)) dX10_readingOf_29 ?_
    refine sw_naml (e := S (14 + Nt)) (by rw [(show x_4.toNatClampNeg = 14 + Nt by rw [ix_4]; exact nI_clamp (by omega))]) (fun x_5 ex_5 => ?_)
    refine sw_ldc2 (pc := 30) (v := 13107) F (List.mem_of_getElem? (i := 3) rfl) dX10_readingOf_30 ?_
    refine sw_lsub (pc := 33) F dX10_readingOf_33 ?_
    refine sw_topl (fun x_6 ex_6 => ?_)
    refine sw_lmul (pc := 34) F dX10_readingOf_34 ?_
    refine sw_topl (fun x_7 ex_7 => ?_)
    refine sw_ldc2 (pc := 35) (v := 52428) F (List.mem_of_getElem? (i := 4) rfl) dX10_readingOf_35 ?_
    refine sw_calll (pc := 38) (wr := [(h0, .inr (10, [.ref b0, .ref b1, .int np, .int th, .long hh])), (b0, .inl (G.2.1.2, 344, .inr (.inl S))), (b1, .inl (G.2.1.2, 1032, .inr (.inl P)))]) (k' := 0) (n' := 0) F (sw_runS (R := ({ frames := 1, cells := 0, slots := 0, locals := 25 } : Room)) (na := 2) F T.2.1 T.2.2.1 (k_X10_floor l G x_7 52428 (by decide)) [] rfl (by decide) gX10_readingOf_X10_floor rfl rfl rfl (by decide +kernel) ⟨Nat.le_of_ble_eq_true rfl, Nat.le_of_ble_eq_true rfl⟩ rfl rfl (Nat.le_of_ble_eq_true rfl) dX10_readingOf_38 (Nat.le_of_ble_eq_true rfl) (Nat.le_of_ble_eq_true rfl)) [] [0, 1, 2] rfl rfl (by decide) (by decide) rfl rfl (fun r_8 u_9 h_10 => ?_)
    have e_11 : r_8 = f_X10_floor_r x_7 52428 := h_10
    refine sw_eq (ws' := [(h0, .inr (10, [.ref b0, .ref b1, .int np, .int th, .long hh])), (b0, .inl (G.2.1.2, 344, .inr (.inl S))), (b1, .inl (G.2.1.2, 1032, .inr (.inl P)))]) (lv' := [(0, .ref h0), (1, .int t)]) (st' := [.long r_8, .long 0]) rfl rfl rfl ?_
    refine sw_ladd (pc := 41) F dX10_readingOf_41 ?_
    refine sw_topl (fun x_12 ex_12 => ?_)
    subst ex_12
    subst e_11
    subst ex_7
    subst ex_6
    subst ex_5
    subst ex_4
    subst ex_3
    subst ex_2
    exact sw_lret (pc := 42) F T () (by unfold f_X10_readingOf_r; rw [if_neg c_1]) rfl dX10_readingOf_42
  · skip
    refine sw_ldc2 (pc := 5) (v := (-500)) F (List.mem_of_getElem? (i := 1) rfl) dX10_readingOf_5 ?_
    refine sw_goto (pc := 8) (tgt := 12) F dX10_readingOf_8 (by decide) ?_
    refine sw_aload_n (pc := 12) F dX10_readingOf_12 rfl 0 rfl ?_
    refine sw_get (pc := 13) (Cn := RX10) (T := TX10) (N := 5) (ci := 10) (v := .ref b0) F in10 0 rfl rfl 0 (by decide) rfl (List.mem_of_getElem? (i := 2) rfl) rfl dX10_readingOf_13 ?_
    refine sw_bipush (pc := 16) (v := 6) F dX10_readingOf_16 rfl ?_
    refine sw_iload_n (pc := 18) F dX10_readingOf_18 rfl 1 rfl ?_
    refine sw_iadd (pc := 19) F dX10_readingOf_19 ?_
    refine sw_topi (fun x_13 ex_13 => ?_)
    have ix_13 : x_13 = nI (6 + Nt) := by rw [ex_13, ht]; exact nI_add 6 Nt
    refine sw_lald (pc := 20) F 1 rfl (by rw [ix_13]; exact vp_in_nI (by omega) (by decide)) dX10_readingOf_20 ?_
    refine sw_naml (e := S (6 + Nt)) (by rw [(show x_13.toNatClampNeg = 6 + Nt by rw [ix_13]; exact nI_clamp (by omega))]) (fun x_14 ex_14 => ?_)
    refine sw_aload_n (pc := 21) F dX10_readingOf_21 rfl 0 rfl ?_
    refine sw_get (pc := 22) (Cn := RX10) (T := TX10) (N := 5) (ci := 10) (v := .ref b0) F in10 0 rfl rfl 0 (by decide) rfl (List.mem_of_getElem? (i := 2) rfl) rfl dX10_readingOf_22 ?_
    refine sw_bipush (pc := 25) (v := 14) F dX10_readingOf_25 rfl ?_
    refine sw_iload_n (pc := 27) F dX10_readingOf_27 rfl 1 rfl ?_
    refine sw_iadd (pc := 28) F dX10_readingOf_28 ?_
    refine sw_topi (fun x_15 ex_15 => ?_)
    have ix_15 : x_15 = nI (14 + Nt) := by rw [ex_15, ht]; exact nI_add 14 Nt
    refine sw_lald (pc := 29) F 1 rfl (by rw [ix_15]; exact vp_in_nI (by omega) (by decide)) dX10_readingOf_29 ?_
    refine sw_naml (e := S (14 + Nt)) (by rw [(show x_15.toNatClampNeg = 14 + Nt by rw [ix_15]; exact nI_clamp (by omega))]) (fun x_16 ex_16 => ?_)
    refine sw_ldc2 (pc := 30) (v := 13107) F (List.mem_of_getElem? (i := 3) rfl) dX10_readingOf_30 ?_
    refine sw_lsub (pc := 33) F dX10_readingOf_33 ?_
    refine sw_topl (fun x_17 ex_17 => ?_)
    refine sw_lmul (pc := 34) F dX10_readingOf_34 ?_
    refine sw_topl (fun x_18 ex_18 => ?_)
    refine sw_ldc2 (pc := 35) (v := 52428) F (List.mem_of_getElem? (i := 4) rfl) dX10_readingOf_35 ?_
    refine sw_calll (pc := 38) (wr := [(h0, .inr (10, [.ref b0, .ref b1, .int np, .int th, .long hh])), (b0, .inl (G.2.1.2, 344, .inr (.inl S))), (b1, .inl (G.2.1.2, 1032, .inr (.inl P)))]) (k' := 0) (n' := 0) F (sw_runS (R := ({ frames := 1, cells := 0, slots := 0, locals := 25 } : Room)) (na := 2) F T.2.1 T.2.2.1 (k_X10_floor l G x_18 52428 (by decide)) [] rfl (by decide) gX10_readingOf_X10_floor rfl rfl rfl (by decide +kernel) ⟨Nat.le_of_ble_eq_true rfl, Nat.le_of_ble_eq_true rfl⟩ rfl rfl (Nat.le_of_ble_eq_true rfl) dX10_readingOf_38 (Nat.le_of_ble_eq_true rfl) (Nat.le_of_ble_eq_true rfl)) [] [0, 1, 2] rfl rfl (by decide) (by decide) rfl rfl (fun r_19 u_20 h_21 => ?_)
    have e_22 : r_19 = f_X10_floor_r x_18 52428 := h_21
    refine sw_eq (ws' := [(h0, .inr (10, [.ref b0, .ref b1, .int np, .int th, .long hh])), (b0, .inl (G.2.1.2, 344, .inr (.inl S))), (b1, .inl (G.2.1.2, 1032, .inr (.inl P)))]) (lv' := [(0, .ref h0), (1, .int t)]) (st' := [.long r_19, .long ((-500))]) rfl rfl rfl ?_
    refine sw_ladd (pc := 41) F dX10_readingOf_41 ?_
    refine sw_topl (fun x_23 ex_23 => ?_)
    subst ex_23
    subst e_22
    subst ex_18
    subst ex_17
    subst ex_16
    subst ex_15
    subst ex_14
    subst ex_13
    exact sw_lret (pc := 42) F T () (by unfold f_X10_readingOf_r; rw [if_pos c_1]) rfl dX10_readingOf_42
def f_X10_isFaulty_r (S : Nat → Int64) (Nt : Nat) : Int32 := if 12000 ≤ (S (14 + Nt)) then (0) else (1)
set_option maxHeartbeats 4000000 in
set_option maxRecDepth 100000 in
theorem k_X10_isFaulty (l : Launch) (G : sw_E) (h0 : Nat) (b0 : Nat) (b1 : Nat) (np : Int32) (th : Int32) (hh : Int64) (S : Nat → Int64) (P : Nat → Int64) (Nt : Nat) (t : Int32) (ht : t = nI Nt) (hNt : Nt < 4) : sw_M l G yX10_isFaulty wsX10_isFaulty ({ frames := 0, cells := 0, slots := 0, locals := 0 } : Room) [.ref h0, .int t] [(h0, .inr (10, [.ref b0, .ref b1, .int np, .int th, .long hh])), (b0, .inl (G.2.1.2, 344, .inr (.inl S))), (b1, .inl (G.2.1.2, 1032, .inr (.inl P)))] (sw_QI G (S := Unit) (fun (r : Int32) (_ : Unit) => r = f_X10_isFaulty_r S Nt) (fun _ => [(h0, .inr (10, [.ref b0, .ref b1, .int np, .int th, .long hh])), (b0, .inl (G.2.1.2, 344, .inr (.inl S))), (b1, .inl (G.2.1.2, 1032, .inr (.inl P)))])) 0 0 := by
  refine sw_start (cc := cX10_isFaulty) (maxL := 2) (ret := some .boolean) (lv := [(0, .ref h0), (1, .int t)]) (own := RX10) (nm := "isFaulty") (by decide +kernel) rfl rfl rfl rfl (Nat.le_of_ble_eq_true rfl) (fun C F T => ?_)
  have in10 : ∀ w ∈ u_ws RX10 TX10 5, w ∈ wsX10_isFaulty := fun w h => List.mem_cons_of_mem _ (List.mem_append_right _ (h))
  refine sw_aload_n (pc := 0) F dX10_isFaulty_0 rfl 0 rfl ?_
  refine sw_get (pc := 1) (Cn := RX10) (T := TX10) (N := 5) (ci := 10) (v := .ref b0) F in10 0 rfl rfl 0 (by decide) rfl (List.mem_of_getElem? (i := 1) rfl) rfl dX10_isFaulty_1 ?_
  refine sw_bipush (pc := 4) (v := 14) F dX10_isFaulty_4 rfl ?_
  refine sw_iload_n (pc := 6) F dX10_isFaulty_6 rfl 1 rfl ?_
  refine sw_iadd (pc := 7) F dX10_isFaulty_7 ?_
  refine sw_topi (fun x_1 ex_1 => ?_)
  have ix_1 : x_1 = nI (14 + Nt) := by rw [ex_1, ht]; exact nI_add 14 Nt
  refine sw_lald (pc := 8) F 1 rfl (by rw [ix_1]; exact vp_in_nI (by omega) (by decide)) dX10_isFaulty_8 ?_
  refine sw_naml (e := S (14 + Nt)) (by rw [(show x_1.toNatClampNeg = 14 + Nt by rw [ix_1]; exact nI_clamp (by omega))]) (fun x_2 ex_2 => ?_)
  refine sw_ldc2 (pc := 9) (v := 12000) F (List.mem_of_getElem? (i := 2) rfl) dX10_isFaulty_9 ?_
  refine sw_lcmp_ge (pc := 12) (tgt := 20) F dX10_isFaulty_12 dX10_isFaulty_13 (by decide) (fun c_3 => ?_) (fun c_3 => ?_)
  · skip
    refine sw_iconst (pc := 20) (v := 0) F dX10_isFaulty_20 rfl ?_
    subst ex_2
    subst ex_1
    exact sw_iret (pc := 21) F T rfl rfl () (by unfold f_X10_isFaulty_r; rw [if_pos c_3]) rfl dX10_isFaulty_21
  · skip
    refine sw_iconst (pc := 16) (v := 1) F dX10_isFaulty_16 rfl ?_
    refine sw_goto (pc := 17) (tgt := 21) F dX10_isFaulty_17 (by decide) ?_
    subst ex_2
    subst ex_1
    exact sw_iret (pc := 21) F T rfl rfl () (by unfold f_X10_isFaulty_r; rw [if_neg c_3]) rfl dX10_isFaulty_21
def f_X10_densityAt_r (S : Nat → Int64) (a : Int64) (b : Int64) : Int64 := if (S 1) = 1 then (if a ≤ 0 then (if (b + 2731) ≤ 1 then ((f_X10_floor_r (((S 26) * 0) * 2931) 101)) else ((f_X10_floor_r (((S 26) * 0) * 2931) (101 * (b + 2731))))) else (if (b + 2731) ≤ 1 then ((f_X10_floor_r (((S 26) * a) * 2931) 101)) else ((f_X10_floor_r (((S 26) * a) * 2931) (101 * (b + 2731)))))) else (if (-200) < b then (if b < 800 then (((S (26 + (dix b))) + (f_X10_floor_r (((S ((26 + (dix b)) + 1)) - (S (26 + (dix b)))) * ((b + 200) - (200 * (((((b + 200) / 200).toInt32).toInt64))))) 200))) else ((S 31))) else ((S 26)))
set_option maxHeartbeats 4000000 in
set_option maxRecDepth 100000 in
theorem k_X10_densityAt (l : Launch) (G : sw_E) (h0 : Nat) (b0 : Nat) (b1 : Nat) (np : Int32) (th : Int32) (hh : Int64) (S : Nat → Int64) (P : Nat → Int64) (a : Int64) (b : Int64) (hbd : -1000000 ≤ b.toInt ∧ b.toInt ≤ 1000000) : sw_M l G yX10_densityAt wsX10_densityAt ({ frames := 1, cells := 0, slots := 0, locals := 25 } : Room) [.ref h0, .long a, .long b] [(h0, .inr (10, [.ref b0, .ref b1, .int np, .int th, .long hh])), (b0, .inl (G.2.1.2, 344, .inr (.inl S))), (b1, .inl (G.2.1.2, 1032, .inr (.inl P)))] (sw_QL G (S := Unit) (fun (r : Int64) (_ : Unit) => r = f_X10_densityAt_r S a b) (fun _ => [(h0, .inr (10, [.ref b0, .ref b1, .int np, .int th, .long hh])), (b0, .inl (G.2.1.2, 344, .inr (.inl S))), (b1, .inl (G.2.1.2, 1032, .inr (.inl P)))])) 0 0 := by
  refine sw_start (cc := cX10_densityAt) (maxL := 7) (ret := some .long) (lv := [(0, .ref h0), (1, .long a), (3, .long b)]) (own := RX10) (nm := "densityAt") (by decide +kernel) rfl rfl rfl rfl (Nat.le_of_ble_eq_true rfl) (fun C F T => ?_)
  have in10 : ∀ w ∈ u_ws RX10 TX10 5, w ∈ wsX10_densityAt := fun w h => List.mem_cons_of_mem _ (List.mem_append_right _ (h))
  refine sw_aload_n (pc := 0) F dX10_densityAt_0 rfl 0 rfl ?_
  refine sw_get (pc := 1) (Cn := RX10) (T := TX10) (N := 5) (ci := 10) (v := .ref b0) F in10 0 rfl rfl 0 (by decide) rfl (List.mem_of_getElem? (i := 1) rfl) rfl dX10_densityAt_1 ?_
  refine sw_iconst (pc := 4) (v := 1) F dX10_densityAt_4 rfl ?_
  refine sw_lald (pc := 5) F 1 rfl (sw_in rfl) dX10_densityAt_5 ?_
  refine sw_naml (e := S 1) rfl (fun x_1 ex_1 => ?_)
  refine sw_lconst (pc := 6) (v := 1) F dX10_densityAt_6 rfl ?_
  refine sw_lcmp_ne (pc := 7) (tgt := 62) F dX10_densityAt_7 dX10_densityAt_8 (by decide) (fun c_2 => ?_) (fun c_2 => ?_)
  · skip
    refine sw_lload_n (pc := 62) F dX10_densityAt_62 rfl 2 rfl ?_
    refine sw_ldc2 (pc := 63) (v := (-200)) F (List.mem_of_getElem? (i := 5) rfl) dX10_densityAt_63 ?_
    refine sw_lcmp_gt (pc := 66) (tgt := 78) F dX10_densityAt_66 dX10_densityAt_67 (by decide) (fun c_3 => ?_) (fun c_3 => ?_)
    · skip
      refine sw_lload_n (pc := 78) F dX10_densityAt_78 rfl 2 rfl ?_
      refine sw_ldc2 (pc := 79) (v := 800) F (List.mem_of_getElem? (i := 6) rfl) dX10_densityAt_79 ?_
      refine sw_lcmp_lt (pc := 82) (tgt := 94) F dX10_densityAt_82 dX10_densityAt_83 (by decide) (fun c_4 => ?_) (fun c_4 => ?_)
      · skip
        refine sw_lload_n (pc := 94) F dX10_densityAt_94 rfl 2 rfl ?_
        refine sw_ldc2 (pc := 95) (v := 200) F (List.mem_of_getElem? (i := 7) rfl) dX10_densityAt_95 ?_
        refine sw_ladd (pc := 98) F dX10_densityAt_98 ?_
        refine sw_topl (fun x_5 ex_5 => ?_)
        refine sw_ldc2 (pc := 99) (v := 200) F (List.mem_of_getElem? (i := 7) rfl) dX10_densityAt_99 ?_
        refine sw_ldiv (pc := 102) F dX10_densityAt_102 (by decide) ?_
        refine sw_topl (fun x_6 ex_6 => ?_)
        refine sw_l2i (pc := 103) F dX10_densityAt_103 rfl ?_
        have hx5 : x_6.toInt32 = nI (dix b) := by subst_vars; exact (dix_ok c_3 c_4).2
        have hx6 : dix b < 5 := (dix_ok c_3 c_4).1
        refine sw_istore (pc := 104) (lv' := [(5, .int x_6.toInt32), (0, .ref h0), (1, .long a), (3, .long b)]) F T.1 dX10_densityAt_104 (by decide) rfl ?_
        refine sw_aload_n (pc := 106) F dX10_densityAt_106 rfl 1 rfl ?_
        refine sw_get (pc := 107) (Cn := RX10) (T := TX10) (N := 5) (ci := 10) (v := .ref b0) F in10 0 rfl rfl 0 (by decide) rfl (List.mem_of_getElem? (i := 1) rfl) rfl dX10_densityAt_107 ?_
        refine sw_bipush (pc := 110) (v := 26) F dX10_densityAt_110 rfl ?_
        refine sw_iload (pc := 112) F dX10_densityAt_112 0 rfl ?_
        refine sw_iadd (pc := 114) F dX10_densityAt_114 ?_
        refine sw_topi (fun x_7 ex_7 => ?_)
        have ix_7 : x_7 = nI (26 + (dix b)) := by rw [ex_7, hx5]; exact nI_add 26 (dix b)
        refine sw_lald (pc := 115) F 1 rfl (by rw [ix_7]; exact vp_in_nI (by omega) (by decide)) dX10_densityAt_115 ?_
        refine sw_naml (e := S (26 + (dix b))) (by rw [(show x_7.toNatClampNeg = 26 + (dix b) by rw [ix_7]; exact nI_clamp (by omega))]) (fun x_8 ex_8 => ?_)
        refine sw_aload_n (pc := 116) F dX10_densityAt_116 rfl 1 rfl ?_
        refine sw_get (pc := 117) (Cn := RX10) (T := TX10) (N := 5) (ci := 10) (v := .ref b0) F in10 0 rfl rfl 0 (by decide) rfl (List.mem_of_getElem? (i := 1) rfl) rfl dX10_densityAt_117 ?_
        refine sw_bipush (pc := 120) (v := 26) F dX10_densityAt_120 rfl ?_
        refine sw_iload (pc := 122) F dX10_densityAt_122 0 rfl ?_
        refine sw_iadd (pc := 124) F dX10_densityAt_124 ?_
        refine sw_topi (fun x_9 ex_9 => ?_)
        have ix_9 : x_9 = nI (26 + (dix b)) := by rw [ex_9, hx5]; exact nI_add 26 (dix b)
        refine sw_iconst (pc := 125) (v := 1) F dX10_densityAt_125 rfl ?_
        refine sw_iadd (pc := 126) F dX10_densityAt_126 ?_
        refine sw_topi (fun x_10 ex_10 => ?_)
        have ix_10 : x_10 = nI ((26 + (dix b)) + 1) := by rw [ex_10, ix_9]; exact nI_add (26 + (dix b)) 1
        refine sw_lald (pc := 127) F 1 rfl (by rw [ix_10]; exact vp_in_nI (by omega) (by decide)) dX10_densityAt_127 ?_
        refine sw_naml (e := S ((26 + (dix b)) + 1)) (by rw [(show x_10.toNatClampNeg = (26 + (dix b)) + 1 by rw [ix_10]; exact nI_clamp (by omega))]) (fun x_11 ex_11 => ?_)
        refine sw_aload_n (pc := 128) F dX10_densityAt_128 rfl 1 rfl ?_
        refine sw_get (pc := 129) (Cn := RX10) (T := TX10) (N := 5) (ci := 10) (v := .ref b0) F in10 0 rfl rfl 0 (by decide) rfl (List.mem_of_getElem? (i := 1) rfl) rfl dX10_densityAt_129 ?_
        refine sw_bipush (pc := 132) (v := 26) F dX10_densityAt_132 rfl ?_
        refine sw_iload (pc := 134) F dX10_densityAt_134 0 rfl ?_
        refine sw_iadd (pc := 136) F dX10_densityAt_136 ?_
        refine sw_topi (fun x_12 ex_12 => ?_)
        have ix_12 : x_12 = nI (26 + (dix b)) := by rw [ex_12, hx5]; exact nI_add 26 (dix b)
        refine sw_lald (pc := 137) F 1 rfl (by rw [ix_12]; exact vp_in_nI (by omega) (by decide)) dX10_densityAt_137 ?_
        refine sw_naml (e := S (26 + (dix b))) (by rw [(show x_12.toNatClampNeg = 26 + (dix b) by rw [ix_12]; exact nI_clamp (by omega))]) (fun x_13 ex_13 => ?_)
        refine sw_lsub (pc := 138) F dX10_densityAt_138 ?_
        refine sw_topl (fun x_14 ex_14 => ?_)
        refine sw_lload_n (pc := 139) F dX10_densityAt_139 rfl 3 rfl ?_
        refine sw_ldc2 (pc := 140) (v := 200) F (List.mem_of_getElem? (i := 7) rfl) dX10_densityAt_140 ?_
        refine sw_ladd (pc := 143) F dX10_densityAt_143 ?_
        refine sw_topl (fun x_15 ex_15 => ?_)
        refine sw_ldc2 (pc := 144) (v := 200) F (List.mem_of_getElem? (i := 7) rfl) dX10_densityAt_144 ?_
        refine sw_iload (pc := 147) F dX10_densityAt_147 0 rfl ?_
        refine sw_i2l (pc := 149) F dX10_densityAt_149 rfl ?_
        refine sw_lmul (pc := 150) F dX10_densityAt_150 ?_
        refine sw_topl (fun x_16 ex_16 => ?_)
        refine sw_lsub (pc := 151) F dX10_densityAt_151 ?_
        refine sw_topl (fun x_17 ex_17 => ?_)
        refine sw_lmul (pc := 152) F dX10_densityAt_152 ?_
        refine sw_topl (fun x_18 ex_18 => ?_)
        refine sw_ldc2 (pc := 153) (v := 200) F (List.mem_of_getElem? (i := 7) rfl) dX10_densityAt_153 ?_
        refine sw_calll (pc := 156) (wr := [(h0, .inr (10, [.ref b0, .ref b1, .int np, .int th, .long hh])), (b0, .inl (G.2.1.2, 344, .inr (.inl S))), (b1, .inl (G.2.1.2, 1032, .inr (.inl P)))]) (k' := 0) (n' := 0) F (sw_runS (R := ({ frames := 1, cells := 0, slots := 0, locals := 25 } : Room)) (na := 2) F T.2.1 T.2.2.1 (k_X10_floor l G x_18 200 (by decide)) [] rfl (by decide) gX10_densityAt_X10_floor rfl rfl rfl (by decide +kernel) ⟨Nat.le_of_ble_eq_true rfl, Nat.le_of_ble_eq_true rfl⟩ rfl rfl (Nat.le_of_ble_eq_true rfl) dX10_densityAt_156 (Nat.le_of_ble_eq_true rfl) (Nat.le_of_ble_eq_true rfl)) [] [0, 1, 2] rfl rfl (by decide) (by decide) rfl rfl (fun r_19 u_20 h_21 => ?_)
        have e_22 : r_19 = f_X10_floor_r x_18 200 := h_21
        refine sw_eq (ws' := [(h0, .inr (10, [.ref b0, .ref b1, .int np, .int th, .long hh])), (b0, .inl (G.2.1.2, 344, .inr (.inl S))), (b1, .inl (G.2.1.2, 1032, .inr (.inl P)))]) (lv' := [(5, .int x_6.toInt32), (0, .ref h0), (1, .long a), (3, .long b)]) (st' := [.long r_19, .long x_8]) rfl rfl rfl ?_
        refine sw_ladd (pc := 159) F dX10_densityAt_159 ?_
        refine sw_topl (fun x_23 ex_23 => ?_)
        subst ex_23
        subst e_22
        subst ex_18
        subst ex_17
        subst ex_16
        subst ex_15
        subst ex_14
        subst ex_13
        subst ex_12
        subst ex_11
        subst ex_10
        subst ex_9
        subst ex_8
        subst ex_7
        subst ex_6
        subst ex_5
        subst ex_1
        exact sw_lret (pc := 160) F T () (by unfold f_X10_densityAt_r; rw [if_neg c_2, if_pos c_3, if_pos c_4]) rfl dX10_densityAt_160
      · skip
        refine sw_aload_n (pc := 86) F dX10_densityAt_86 rfl 0 rfl ?_
        refine sw_get (pc := 87) (Cn := RX10) (T := TX10) (N := 5) (ci := 10) (v := .ref b0) F in10 0 rfl rfl 0 (by decide) rfl (List.mem_of_getElem? (i := 1) rfl) rfl dX10_densityAt_87 ?_
        refine sw_bipush (pc := 90) (v := 31) F dX10_densityAt_90 rfl ?_
        refine sw_lald (pc := 92) F 1 rfl (sw_in rfl) dX10_densityAt_92 ?_
        refine sw_naml (e := S 31) rfl (fun x_24 ex_24 => ?_)
        subst ex_24
        subst ex_1
        exact sw_lret (pc := 93) F T () (by unfold f_X10_densityAt_r; rw [if_neg c_2, if_pos c_3, if_neg c_4]) rfl dX10_densityAt_93
    · skip
      refine sw_aload_n (pc := 70) F dX10_densityAt_70 rfl 0 rfl ?_
      refine sw_get (pc := 71) (Cn := RX10) (T := TX10) (N := 5) (ci := 10) (v := .ref b0) F in10 0 rfl rfl 0 (by decide) rfl (List.mem_of_getElem? (i := 1) rfl) rfl dX10_densityAt_71 ?_
      refine sw_bipush (pc := 74) (v := 26) F dX10_densityAt_74 rfl ?_
      refine sw_lald (pc := 76) F 1 rfl (sw_in rfl) dX10_densityAt_76 ?_
      refine sw_naml (e := S 26) rfl (fun x_25 ex_25 => ?_)
      subst ex_25
      subst ex_1
      exact sw_lret (pc := 77) F T () (by unfold f_X10_densityAt_r; rw [if_neg c_2, if_neg c_3]) rfl dX10_densityAt_77
  · skip
    refine sw_lload_n (pc := 11) F dX10_densityAt_11 rfl 2 rfl ?_
    refine sw_ldc2 (pc := 12) (v := 2731) F (List.mem_of_getElem? (i := 2) rfl) dX10_densityAt_12 ?_
    refine sw_ladd (pc := 15) F dX10_densityAt_15 ?_
    refine sw_topl (fun x_26 ex_26 => ?_)
    refine sw_lstore (pc := 16) (lv' := [(5, .long x_26), (0, .ref h0), (1, .long a), (3, .long b)]) F T.1 dX10_densityAt_16 (by decide) rfl ?_
    refine sw_aload_n (pc := 18) F dX10_densityAt_18 rfl 1 rfl ?_
    refine sw_get (pc := 19) (Cn := RX10) (T := TX10) (N := 5) (ci := 10) (v := .ref b0) F in10 0 rfl rfl 0 (by decide) rfl (List.mem_of_getElem? (i := 1) rfl) rfl dX10_densityAt_19 ?_
    refine sw_bipush (pc := 22) (v := 26) F dX10_densityAt_22 rfl ?_
    refine sw_lald (pc := 24) F 1 rfl (sw_in rfl) dX10_densityAt_24 ?_
    refine sw_naml (e := S 26) rfl (fun x_27 ex_27 => ?_)
    refine sw_lload_n (pc := 25) F dX10_densityAt_25 rfl 2 rfl ?_
    refine sw_lconst (pc := 26) (v := 0) F dX10_densityAt_26 rfl ?_
    refine sw_lcmp_le (pc := 27) (tgt := 35) F dX10_densityAt_27 dX10_densityAt_28 (by decide) (fun c_28 => ?_) (fun c_28 => ?_)
    · skip
      refine sw_lconst (pc := 35) (v := 0) F dX10_densityAt_35 rfl ?_
      refine sw_lmul (pc := 36) F dX10_densityAt_36 ?_
      refine sw_topl (fun x_29 ex_29 => ?_)
      refine sw_ldc2 (pc := 37) (v := 2931) F (List.mem_of_getElem? (i := 3) rfl) dX10_densityAt_37 ?_
      refine sw_lmul (pc := 40) F dX10_densityAt_40 ?_
      refine sw_topl (fun x_30 ex_30 => ?_)
      refine sw_ldc2 (pc := 41) (v := 101) F (List.mem_of_getElem? (i := 4) rfl) dX10_densityAt_41 ?_
      refine sw_lload (pc := 44) F dX10_densityAt_44 0 rfl ?_
      refine sw_lconst (pc := 46) (v := 1) F dX10_densityAt_46 rfl ?_
      refine sw_lcmp_le (pc := 47) (tgt := 56) F dX10_densityAt_47 dX10_densityAt_48 (by decide) (fun c_31 => ?_) (fun c_31 => ?_)
      · skip
        refine sw_lconst (pc := 56) (v := 1) F dX10_densityAt_56 rfl ?_
        refine sw_lmul (pc := 57) F dX10_densityAt_57 ?_
        refine sw_eqt (v := .long 101) (by rfl) ?_
        refine sw_calll (pc := 58) (wr := [(h0, .inr (10, [.ref b0, .ref b1, .int np, .int th, .long hh])), (b0, .inl (G.2.1.2, 344, .inr (.inl S))), (b1, .inl (G.2.1.2, 1032, .inr (.inl P)))]) (k' := 0) (n' := 0) F (sw_runS (R := ({ frames := 1, cells := 0, slots := 0, locals := 25 } : Room)) (na := 2) F T.2.1 T.2.2.1 (k_X10_floor l G x_30 101 (by decide)) [] rfl (by decide) gX10_densityAt_X10_floor rfl rfl rfl (by decide +kernel) ⟨Nat.le_of_ble_eq_true rfl, Nat.le_of_ble_eq_true rfl⟩ rfl rfl (Nat.le_of_ble_eq_true rfl) dX10_densityAt_58 (Nat.le_of_ble_eq_true rfl) (Nat.le_of_ble_eq_true rfl)) [] [0, 1, 2] rfl rfl (by decide) (by decide) rfl rfl (fun r_32 u_33 h_34 => ?_)
        have e_35 : r_32 = f_X10_floor_r x_30 101 := h_34
        refine sw_eq (ws' := [(h0, .inr (10, [.ref b0, .ref b1, .int np, .int th, .long hh])), (b0, .inl (G.2.1.2, 344, .inr (.inl S))), (b1, .inl (G.2.1.2, 1032, .inr (.inl P)))]) (lv' := [(5, .long x_26), (0, .ref h0), (1, .long a), (3, .long b)]) (st' := [.long r_32]) rfl rfl rfl ?_
        subst e_35
        subst ex_30
        subst ex_29
        subst ex_27
        subst ex_26
        subst ex_1
        exact sw_lret (pc := 61) F T () (by unfold f_X10_densityAt_r; rw [if_pos c_2, if_pos c_28, if_pos c_31]) rfl dX10_densityAt_61
      · skip
        refine sw_lload (pc := 51) F dX10_densityAt_51 0 rfl ?_
        refine sw_goto (pc := 53) (tgt := 57) F dX10_densityAt_53 (by decide) ?_
        refine sw_lmul (pc := 57) F dX10_densityAt_57 ?_
        refine sw_topl (fun x_36 ex_36 => ?_)
        refine sw_calll (pc := 58) (wr := [(h0, .inr (10, [.ref b0, .ref b1, .int np, .int th, .long hh])), (b0, .inl (G.2.1.2, 344, .inr (.inl S))), (b1, .inl (G.2.1.2, 1032, .inr (.inl P)))]) (k' := 0) (n' := 0) F (sw_runS (R := ({ frames := 1, cells := 0, slots := 0, locals := 25 } : Room)) (na := 2) F T.2.1 T.2.2.1 (k_X10_floor l G x_30 x_36 (by subst_vars; exact dn_nz hbd c_31 rfl)) [] rfl (by decide) gX10_densityAt_X10_floor rfl rfl rfl (by decide +kernel) ⟨Nat.le_of_ble_eq_true rfl, Nat.le_of_ble_eq_true rfl⟩ rfl rfl (Nat.le_of_ble_eq_true rfl) dX10_densityAt_58 (Nat.le_of_ble_eq_true rfl) (Nat.le_of_ble_eq_true rfl)) [] [0, 1, 2] rfl rfl (by decide) (by decide) rfl rfl (fun r_37 u_38 h_39 => ?_)
        have e_40 : r_37 = f_X10_floor_r x_30 x_36 := h_39
        refine sw_eq (ws' := [(h0, .inr (10, [.ref b0, .ref b1, .int np, .int th, .long hh])), (b0, .inl (G.2.1.2, 344, .inr (.inl S))), (b1, .inl (G.2.1.2, 1032, .inr (.inl P)))]) (lv' := [(5, .long x_26), (0, .ref h0), (1, .long a), (3, .long b)]) (st' := [.long r_37]) rfl rfl rfl ?_
        subst e_40
        subst ex_36
        subst ex_30
        subst ex_29
        subst ex_27
        subst ex_26
        subst ex_1
        exact sw_lret (pc := 61) F T () (by unfold f_X10_densityAt_r; rw [if_pos c_2, if_pos c_28, if_neg c_31]) rfl dX10_densityAt_61
    · skip
      refine sw_lload_n (pc := 31) F dX10_densityAt_31 rfl 2 rfl ?_
      refine sw_goto (pc := 32) (tgt := 36) F dX10_densityAt_32 (by decide) ?_
      refine sw_lmul (pc := 36) F dX10_densityAt_36 ?_
      refine sw_topl (fun x_41 ex_41 => ?_)
      refine sw_ldc2 (pc := 37) (v := 2931) F (List.mem_of_getElem? (i := 3) rfl) dX10_densityAt_37 ?_
      refine sw_lmul (pc := 40) F dX10_densityAt_40 ?_
      refine sw_topl (fun x_42 ex_42 => ?_)
      refine sw_ldc2 (pc := 41) (v := 101) F (List.mem_of_getElem? (i := 4) rfl) dX10_densityAt_41 ?_
      refine sw_lload (pc := 44) F dX10_densityAt_44 0 rfl ?_
      refine sw_lconst (pc := 46) (v := 1) F dX10_densityAt_46 rfl ?_
      refine sw_lcmp_le (pc := 47) (tgt := 56) F dX10_densityAt_47 dX10_densityAt_48 (by decide) (fun c_43 => ?_) (fun c_43 => ?_)
      · skip
        refine sw_lconst (pc := 56) (v := 1) F dX10_densityAt_56 rfl ?_
        refine sw_lmul (pc := 57) F dX10_densityAt_57 ?_
        refine sw_eqt (v := .long 101) (by rfl) ?_
        refine sw_calll (pc := 58) (wr := [(h0, .inr (10, [.ref b0, .ref b1, .int np, .int th, .long hh])), (b0, .inl (G.2.1.2, 344, .inr (.inl S))), (b1, .inl (G.2.1.2, 1032, .inr (.inl P)))]) (k' := 0) (n' := 0) F (sw_runS (R := ({ frames := 1, cells := 0, slots := 0, locals := 25 } : Room)) (na := 2) F T.2.1 T.2.2.1 (k_X10_floor l G x_42 101 (by decide)) [] rfl (by decide) gX10_densityAt_X10_floor rfl rfl rfl (by decide +kernel) ⟨Nat.le_of_ble_eq_true rfl, Nat.le_of_ble_eq_true rfl⟩ rfl rfl (Nat.le_of_ble_eq_true rfl) dX10_densityAt_58 (Nat.le_of_ble_eq_true rfl) (Nat.le_of_ble_eq_true rfl)) [] [0, 1, 2] rfl rfl (by decide) (by decide) rfl rfl (fun r_44 u_45 h_46 => ?_)
        have e_47 : r_44 = f_X10_floor_r x_42 101 := h_46
        refine sw_eq (ws' := [(h0, .inr (10, [.ref b0, .ref b1, .int np, .int th, .long hh])), (b0, .inl (G.2.1.2, 344, .inr (.inl S))), (b1, .inl (G.2.1.2, 1032, .inr (.inl P)))]) (lv' := [(5, .long x_26), (0, .ref h0), (1, .long a), (3, .long b)]) (st' := [.long r_44]) rfl rfl rfl ?_
        subst e_47
        subst ex_42
        subst ex_41
        subst ex_27
        subst ex_26
        subst ex_1
        exact sw_lret (pc := 61) F T () (by unfold f_X10_densityAt_r; rw [if_pos c_2, if_neg c_28, if_pos c_43]) rfl dX10_densityAt_61
      · skip
        refine sw_lload (pc := 51) F dX10_densityAt_51 0 rfl ?_
        refine sw_goto (pc := 53) (tgt := 57) F dX10_densityAt_53 (by decide) ?_
        refine sw_lmul (pc := 57) F dX10_densityAt_57 ?_
        refine sw_topl (fun x_48 ex_48 => ?_)
        refine sw_calll (pc := 58) (wr := [(h0, .inr (10, [.ref b0, .ref b1, .int np, .int th, .long hh])), (b0, .inl (G.2.1.2, 344, .inr (.inl S))), (b1, .inl (G.2.1.2, 1032, .inr (.inl P)))]) (k' := 0) (n' := 0) F (sw_runS (R := ({ frames := 1, cells := 0, slots := 0, locals := 25 } : Room)) (na := 2) F T.2.1 T.2.2.1 (k_X10_floor l G x_42 x_48 (by subst_vars; exact dn_nz hbd c_43 rfl)) [] rfl (by decide) gX10_densityAt_X10_floor rfl rfl rfl (by decide +kernel) ⟨Nat.le_of_ble_eq_true rfl, Nat.le_of_ble_eq_true rfl⟩ rfl rfl (Nat.le_of_ble_eq_true rfl) dX10_densityAt_58 (Nat.le_of_ble_eq_true rfl) (Nat.le_of_ble_eq_true rfl)) [] [0, 1, 2] rfl rfl (by decide) (by decide) rfl rfl (fun r_49 u_50 h_51 => ?_)
        have e_52 : r_49 = f_X10_floor_r x_42 x_48 := h_51
        refine sw_eq (ws' := [(h0, .inr (10, [.ref b0, .ref b1, .int np, .int th, .long hh])), (b0, .inl (G.2.1.2, 344, .inr (.inl S))), (b1, .inl (G.2.1.2, 1032, .inr (.inl P)))]) (lv' := [(5, .long x_26), (0, .ref h0), (1, .long a), (3, .long b)]) (st' := [.long r_49]) rfl rfl rfl ?_
        subst e_52
        subst ex_48
        subst ex_42
        subst ex_41
        subst ex_27
        subst ex_26
        subst ex_1
        exact sw_lret (pc := 61) F T () (by unfold f_X10_densityAt_r; rw [if_pos c_2, if_neg c_28, if_neg c_43]) rfl dX10_densityAt_61
