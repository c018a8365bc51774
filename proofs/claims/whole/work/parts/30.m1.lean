/-- the reference's own state, changed: what comes behind the records of a kind -/
def md_shift (b w top : Nat) (S : Nat → Int64) : Nat → Int64 := fun j => if b + 1 ≤ j ∧ j < b + 1 + top then S (j + w) else S j
def md_down (b w top : Nat) (n : Nat) (S : Nat → Int64) : Nat → Int64 := fun j => if b + 1 ≤ j ∧ j < b + 1 + n then S (j + w) else S j
theorem md_down_0 (b w top : Nat) (S : Nat → Int64) : S = md_down b w top 0 S := by
  funext j
  unfold md_down
  rw [if_neg (by omega)]
theorem md_down_s (b w top n : Nat) (hw : 0 < w) (S : Nat → Int64) : vp_updL (md_down b w top n S) (b + (n + 1)) (md_down b w top n S (b + (n + 1) + w)) = md_down b w top (n + 1) S := by
  funext j
  unfold vp_updL md_down
  by_cases h : j = b + (n + 1)
  · subst h
    rw [if_pos rfl, if_neg (by omega), if_pos (by omega)]
  · rw [if_neg h]
    by_cases h2 : b + 1 ≤ j ∧ j < b + 1 + n
    · rw [if_pos h2, if_pos (by omega)]
    · rw [if_neg h2, if_neg (by omega)]
def md_cn (b most : Nat) (S : Nat → Int64) : Nat := if (S b).toInt.toNat = most then most else (S b).toInt.toNat + 1
def md_at (b w most : Nat) (S : Nat → Int64) : Nat := b + 1 + w * (md_cn b most S - 1)
def md_comes (b w most top : Nat) (S : Nat → Int64) : Nat → Int64 := vp_updL (if (S b).toInt.toNat = most then md_down b w top top S else S) b (lN (md_cn b most S))
theorem lN_of {x : Int64} (h : 0 ≤ x.toInt) : x = lN x.toInt.toNat := by
  apply Int64.toInt_inj.mp
  have h2 := x.toInt_lt
  rw [pk_lT (by omega)]
  omega
theorem md_cn_le {b most : Nat} {S : Nat → Int64} (h : 0 < most) (h2 : (S b).toInt ≤ most) : 1 ≤ md_cn b most S ∧ md_cn b most S ≤ most := by
  unfold md_cn
  split <;> omega
/-- where the shift is due -/
theorem md_full {b most : Nat} {S : Nat → Int64} (hm : most < 1000) (h0 : 0 ≤ (S b).toInt) {x : Int64} (hx : x = lN most) (h : S b = x) : (S b).toInt.toNat = most := by
  rw [h, hx, pk_lT (by omega)]
  omega
theorem md_nfull {b most : Nat} {S : Nat → Int64} (hm : most < 1000) (h0 : 0 ≤ (S b).toInt) {x : Int64} (hx : x = lN most) (h : ¬ S b = x) : ¬ (S b).toInt.toNat = most := fun e => h (by rw [hx, ← e]; exact lN_of h0)
theorem updL_updL {f : Nat → Int64} {k : Nat} {x y : Int64} : vp_updL (vp_updL f k x) k y = vp_updL f k y := by
  funext j
  unfold vp_updL
  by_cases h : j = k
  · rw [if_pos h, if_pos h]
  · rw [if_neg h, if_neg h, if_neg h]
theorem md_end_full {b w most top : Nat} {S S' : Nat → Int64} (hm : 0 < most) (hm2 : most < 1000) (h : (S b).toInt.toNat = most) (h0 : 0 ≤ (S b).toInt) (hS : S' = md_down b w top top S) (x : Int64) (hx : x = vp_updL S' b (S' b - 1) b) : vp_updL (vp_updL S' b (S' b - 1)) b (x + 1) = md_comes b w most top S := by
  have e1 : S' b = S b := by rw [hS]; unfold md_down; rw [if_neg (by omega)]
  rw [updL_updL, hx, pk_uLs, hS]
  unfold md_comes md_cn
  rw [if_pos h, if_pos h, ← hS, e1]
  congr 1
  rw [lN_of h0, h, show (1 : Int64) = lN 1 from rfl, lN_sub (by omega : 1 ≤ most), lN_add]
  congr 1
  omega
theorem md_end_not {b w most top : Nat} {S : Nat → Int64} (h : ¬ (S b).toInt.toNat = most) (h0 : 0 ≤ (S b).toInt) : vp_updL S b (S b + 1) = md_comes b w most top S := by
  unfold md_comes md_cn
  rw [if_neg h, if_neg h, ← lN_1, ← lN_of h0]
theorem md_comes_b {b w most top : Nat} {S : Nat → Int64} : md_comes b w most top S b = lN (md_cn b most S) := by
  unfold md_comes; exact pk_uLs
theorem md_ret {b w most top : Nat} {S : Nat → Int64} (hm : 0 < most) (hm2 : most < 1000) (h2 : (S b).toInt ≤ most) (x y : Int32) (hx : x = nI (b + 1)) (hy : y = nI w) : x + y * ((md_comes b w most top S b).toInt32 - 1) = nI (md_at b w most S) := by
  have := md_cn_le (b := b) (S := S) hm h2
  rw [md_comes_b, lN_i, show (1 : Int32) = nI 1 from rfl, pk_sub this.1, hy, pk_mul, hx, nI_add]
  rfl
def md_logs (q : Int32) (v : Int64) (S : Nat → Int64) : Nat → Int64 :=
  vp_updL (vp_updL (vp_updL (md_comes 253 3 30 87 S) (md_at 253 3 30 S) (md_comes 253 3 30 87 S 0)) (md_at 253 3 30 S + 1) q.toInt64) (md_at 253 3 30 S + 2) v
theorem md_at_le {b w most : Nat} {S : Nat → Int64} (h : 0 < most) (h2 : (S b).toInt ≤ most) : b + 1 ≤ md_at b w most S ∧ md_at b w most S ≤ b + 1 + w * (most - 1) := by
  have := md_cn_le (b := b) (S := S) h h2
  unfold md_at
  have : w * (md_cn b most S - 1) ≤ w * (most - 1) := Nat.mul_le_mul_left w (by omega)
  omega
/-- the saved states -/
def md_s1 (n : Nat) (P : Nat → Int64) : Nat → Int64 := fun j => if j < n then P (j + 344) else P j
theorem md_s1_0 (P : Nat → Int64) : P = md_s1 0 P := by
  funext j; unfold md_s1; rw [if_neg (by omega)]
theorem md_s1_s (n : Nat) (P : Nat → Int64) : vp_updL (md_s1 n P) n (md_s1 n P (n + 344)) = md_s1 (n + 1) P := by
  funext j
  unfold vp_updL md_s1
  by_cases h : j = n
  · subst h; rw [if_pos rfl, if_neg (by omega), if_pos (by omega)]
  · rw [if_neg h]
    by_cases h2 : j < n
    · rw [if_pos h2, if_pos (by omega)]
    · rw [if_neg h2, if_neg (by omega)]
def md_s2 (a n : Nat) (S P : Nat → Int64) : Nat → Int64 := fun j => if a ≤ j ∧ j < a + n then S (j - a) else P j
theorem md_s2_0 (a : Nat) (S P : Nat → Int64) : P = md_s2 a 0 S P := by
  funext j; unfold md_s2; rw [if_neg (by omega)]
theorem md_s2_s (a n : Nat) (S P : Nat → Int64) : vp_updL (md_s2 a n S P) (a + n) (S n) = md_s2 a (n + 1) S P := by
  funext j
  unfold vp_updL md_s2
  by_cases h : j = a + n
  · subst h; rw [if_pos rfl, if_pos (by omega)]; congr 1; omega
  · rw [if_neg h]
    by_cases h2 : a ≤ j ∧ j < a + n
    · rw [if_pos h2, if_pos (by omega)]
    · rw [if_neg h2, if_neg (by omega)]
def md_save (n : Nat) (S P : Nat → Int64) : Nat → Int64 := if n = 3 then md_s2 688 344 S (md_s1 688 P) else md_s2 (344 * n) 344 S P
def md_u (a n : Nat) (S P : Nat → Int64) : Nat → Int64 := fun j => if j < n then P (a + j) else S j
theorem md_u_0 (a : Nat) (S P : Nat → Int64) : S = md_u a 0 S P := by
  funext j; unfold md_u; rw [if_neg (by omega)]
theorem md_u_s (a n : Nat) (S P : Nat → Int64) : vp_updL (md_u a n S P) n (P (a + n)) = md_u a (n + 1) S P := by
  funext j
  unfold vp_updL md_u
  by_cases h : j = n
  · subst h; rw [if_pos rfl, if_pos (by omega)]
  · rw [if_neg h]
    by_cases h2 : j < n
    · rw [if_pos h2, if_pos (by omega)]
    · rw [if_neg h2, if_neg (by omega)]

set_option maxHeartbeats 4000000 in
set_option maxRecDepth 100000 in
theorem k_X10_comes_253 (l : Launch) (G : sw_E) (h0 : Nat) (b0 : Nat) (b1 : Nat) (np : Int32) (th : Int32) (hh : Int64) (S : Nat → Int64) (P : Nat → Int64) (hc : 0 ≤ (S 253).toInt ∧ (S 253).toInt ≤ 30) : sw_M l G yX10_comes wsX10_comes ({ frames := 0, cells := 0, slots := 0, locals := 0 } : Room) [.ref h0, .int 253, .int 3, .int 30] [(h0, .inr (10, [.ref b0, .ref b1, .int np, .int th, .long hh])), (b0, .inl (G.2.1.2, 344, .inr (.inl S))), (b1, .inl (G.2.1.2, 1032, .inr (.inl P)))] (sw_QI G (S := Nat → Int64) (fun (r : Int32) (u : Nat → Int64) => r = nI (md_at 253 3 30 S) ∧ u = md_comes 253 3 30 87 S) (fun u => [(h0, .inr (10, [.ref b0, .ref b1, .int np, .int th, .long hh])), (b0, .inl (G.2.1.2, 344, .inr (.inl u))), (b1, .inl (G.2.1.2, 1032, .inr (.inl P)))])) 0 0 := by
  refine sw_start (cc := cX10_comes) (maxL := 5) (ret := some .int) (lv := [(0, .ref h0), (1, .int 253), (2, .int 3), (3, .int 30)]) (own := RX10) (nm := "comes") (by decide +kernel) rfl rfl rfl rfl (Nat.le_of_ble_eq_true rfl) (fun C F T => ?_)
  have in10 : ∀ w ∈ u_ws RX10 TX10 5, w ∈ wsX10_comes := fun w h => List.mem_cons_of_mem _ (List.mem_append_right _ (h))
  have hcn := md_cn_le (b := 253) (most := 30) (S := S) (by decide) hc.2
  have tail : ∀ (lv : List (Nat × Value)) (S1 : Nat → Int64) (x : Int64), True → True := fun _ _ _ _ => trivial
  have loop : ∀ (m n : Nat), m + n = 87 → (S 253).toInt.toNat = 30 → SW G C 0 0 [(h0, .inr (10, [.ref b0, .ref b1, .int np, .int th, .long hh])), (b0, .inl (G.2.1.2, 344, .inr (.inl (md_down 253 3 87 n S)))), (b1, .inl (G.2.1.2, 1032, .inr (.inl P)))] [(4, .int (nI (n + 1))), (0, .ref h0), (1, .int 253), (2, .int 3), (3, .int 30)] 15 [] := by
    intro m
    induction m with
    | zero =>
      intro n hn hfull
      refine sw_iload (pc := 15) F dX10_comes_15 0 rfl ?_
      refine sw_iload_n (pc := 17) F dX10_comes_17 rfl 3 rfl ?_
      refine sw_iload_n (pc := 18) F dX10_comes_18 rfl 4 rfl ?_
      refine sw_iconst (pc := 19) (v := 1) F dX10_comes_19 rfl ?_
      refine sw_isub (pc := 20) F dX10_comes_20 ?_
      refine sw_eqt (v := .int 29) (by rfl) ?_
      refine sw_imul (pc := 21) F dX10_comes_21 ?_
      refine sw_eqt (v := .int 87) (by rfl) ?_
      refine sw_icmp_gt (pc := 22) (tgt := 51) F dX10_comes_22 (by decide) (fun _ => ?_) (fun c => absurd (nI_lt (a := 87) (b := n + 1) (by omega) (by omega)) c)
      refine sw_aload_n (pc := 51) F dX10_comes_51 rfl 1 rfl ?_
      refine sw_get (pc := 52) (Cn := RX10) (T := TX10) (N := 5) (ci := 10) (v := .ref b0) F in10 0 rfl rfl 0 (by decide) rfl (List.mem_of_getElem? (i := 1) rfl) rfl dX10_comes_52 ?_
      refine sw_iload_n (pc := 55) F dX10_comes_55 rfl 2 rfl ?_
      refine sw_dup2 (pc := 56) F dX10_comes_56 rfl rfl ?_
      refine sw_lald (pc := 57) F 1 rfl (sw_in rfl) dX10_comes_57 ?_
      refine sw_naml (e := (md_down 253 3 87 n S) 253) rfl (fun x_1 ex_1 => ?_)
      refine sw_lconst (pc := 58) (v := 1) F dX10_comes_58 rfl ?_
      refine sw_lsub (pc := 59) F dX10_comes_59 ?_
      refine sw_topl (fun x_2 ex_2 => ?_)
      obtain ⟨f_3, ef_3⟩ : ∃ y : Nat → Int64, y = vp_updL (md_down 253 3 87 n S) 253 x_2 := ⟨_, rfl⟩
      refine sw_last (pc := 60) (ws' := [(h0, .inr (10, [.ref b0, .ref b1, .int np, .int th, .long hh])), (b0, .inl (G.2.1.2, 344, .inr (.inl f_3))), (b1, .inl (G.2.1.2, 1032, .inr (.inl P)))]) F 1 rfl (sw_in rfl) dX10_comes_60 (by rw [ef_3]; rfl) ?_
      refine sw_aload_n (pc := 61) F dX10_comes_61 rfl 1 rfl ?_
      refine sw_get (pc := 62) (Cn := RX10) (T := TX10) (N := 5) (ci := 10) (v := .ref b0) F in10 0 rfl rfl 0 (by decide) rfl (List.mem_of_getElem? (i := 1) rfl) rfl dX10_comes_62 ?_
      refine sw_iload_n (pc := 65) F dX10_comes_65 rfl 2 rfl ?_
      refine sw_dup2 (pc := 66) F dX10_comes_66 rfl rfl ?_
      refine sw_lald (pc := 67) F 1 rfl (sw_in rfl) dX10_comes_67 ?_
      refine sw_naml (e := f_3 253) rfl (fun x_4 ex_4 => ?_)
      refine sw_lconst (pc := 68) (v := 1) F dX10_comes_68 rfl ?_
      refine sw_ladd (pc := 69) F dX10_comes_69 ?_
      refine sw_topl (fun x_5 ex_5 => ?_)
      obtain ⟨f_6, ef_6⟩ : ∃ y : Nat → Int64, y = vp_updL f_3 253 x_5 := ⟨_, rfl⟩
      refine sw_last (pc := 70) (ws' := [(h0, .inr (10, [.ref b0, .ref b1, .int np, .int th, .long hh])), (b0, .inl (G.2.1.2, 344, .inr (.inl f_6))), (b1, .inl (G.2.1.2, 1032, .inr (.inl P)))]) F 1 rfl (sw_in rfl) dX10_comes_70 (by rw [ef_6]; rfl) ?_
      refine sw_iload_n (pc := 71) F dX10_comes_71 rfl 2 rfl ?_
      refine sw_iconst (pc := 72) (v := 1) F dX10_comes_72 rfl ?_
      refine sw_iadd (pc := 73) F dX10_comes_73 ?_
      refine sw_eqt (v := .int 254) (by rfl) ?_
      refine sw_iload_n (pc := 74) F dX10_comes_74 rfl 3 rfl ?_
      refine sw_aload_n (pc := 75) F dX10_comes_75 rfl 1 rfl ?_
      refine sw_get (pc := 76) (Cn := RX10) (T := TX10) (N := 5) (ci := 10) (v := .ref b0) F in10 0 rfl rfl 0 (by decide) rfl (List.mem_of_getElem? (i := 1) rfl) rfl dX10_comes_76 ?_
      refine sw_iload_n (pc := 79) F dX10_comes_79 rfl 2 rfl ?_
      refine sw_lald (pc := 80) F 1 rfl (sw_in rfl) dX10_comes_80 ?_
      refine sw_naml (e := f_6 253) rfl (fun x_7 ex_7 => ?_)
      refine sw_l2i (pc := 81) F dX10_comes_81 rfl ?_
      refine sw_iconst (pc := 82) (v := 1) F dX10_comes_82 rfl ?_
      refine sw_isub (pc := 83) F dX10_comes_83 ?_
      refine sw_topi (fun x_8 ex_8 => ?_)
      refine sw_imul (pc := 84) F dX10_comes_84 ?_
      refine sw_topi (fun x_9 ex_9 => ?_)
      refine sw_iadd (pc := 85) F dX10_comes_85 ?_
      refine sw_topi (fun x_10 ex_10 => ?_)
      subst ex_10
      subst ex_9
      subst ex_8
      subst ex_7
      subst ef_6
      subst ex_5
      subst ex_4
      subst ef_3
      subst ex_2
      subst ex_1
      have hS := md_end_full (most := 30) (top := 87) (w := 3) (by decide) (by decide) hfull hc.1 (show md_down 253 3 87 n S = md_down 253 3 87 87 S by rw [show n = 87 by omega]) _ rfl
      refine sw_iret (pc := 86) F T rfl rfl (md_comes 253 3 30 87 S) ⟨?_, rfl⟩ (by rw [← hS]) dX10_comes_86
      rw [← md_ret (top := 87) (w := 3) (by decide) (by decide) hc.2 254 3 rfl rfl, ← hS]
    | succ m ih =>
      intro n hn hfull
      obtain ⟨k, hk⟩ : ∃ k, k = nI (n + 1) := ⟨_, rfl⟩
      rw [← hk]
      refine sw_iload (pc := 15) F dX10_comes_15 0 rfl ?_
      refine sw_iload_n (pc := 17) F dX10_comes_17 rfl 3 rfl ?_
      refine sw_iload_n (pc := 18) F dX10_comes_18 rfl 4 rfl ?_
      refine sw_iconst (pc := 19) (v := 1) F dX10_comes_19 rfl ?_
      refine sw_isub (pc := 20) F dX10_comes_20 ?_
      refine sw_eqt (v := .int 29) (by rfl) ?_
      refine sw_imul (pc := 21) F dX10_comes_21 ?_
      refine sw_eqt (v := .int 87) (by rfl) ?_
      refine sw_icmp_gt (pc := 22) (tgt := 51) F dX10_comes_22 (by decide) (fun c => absurd c (by rw [hk]; exact nI_nlt (a := 87) (b := n + 1) (by omega) (by omega))) (fun _ => ?_)
      refine sw_aload_n (pc := 25) F dX10_comes_25 rfl 1 rfl ?_
      refine sw_get (pc := 26) (Cn := RX10) (T := TX10) (N := 5) (ci := 10) (v := .ref b0) F in10 0 rfl rfl 0 (by decide) rfl (List.mem_of_getElem? (i := 1) rfl) rfl dX10_comes_26 ?_
      refine sw_iload_n (pc := 29) F dX10_comes_29 rfl 2 rfl ?_
      refine sw_iload (pc := 30) F dX10_comes_30 0 rfl ?_
      refine sw_iadd (pc := 32) F dX10_comes_32 ?_
      refine sw_topi (fun x_11 ex_11 => ?_)
      have ix_11 : x_11 = nI (253 + (n + 1)) := by rw [ex_11, hk]; exact nI_add 253 (n + 1)
      refine sw_aload_n (pc := 33) F dX10_comes_33 rfl 1 rfl ?_
      refine sw_get (pc := 34) (Cn := RX10) (T := TX10) (N := 5) (ci := 10) (v := .ref b0) F in10 0 rfl rfl 0 (by decide) rfl (List.mem_of_getElem? (i := 1) rfl) rfl dX10_comes_34 ?_
      refine sw_iload_n (pc := 37) F dX10_comes_37 rfl 2 rfl ?_
      refine sw_iload (pc := 38) F dX10_comes_38 0 rfl ?_
      refine sw_iadd (pc := 40) F dX10_comes_40 ?_
      refine sw_topi (fun x_12 ex_12 => ?_)
      have ix_12 : x_12 = nI (253 + (n + 1)) := by rw [ex_12, hk]; exact nI_add 253 (n + 1)
      refine sw_iload_n (pc := 41) F dX10_comes_41 rfl 3 rfl ?_
      refine sw_iadd (pc := 42) F dX10_comes_42 ?_
      refine sw_topi (fun x_13 ex_13 => ?_)
      have ix_13 : x_13 = nI ((253 + (n + 1)) + 3) := by rw [ex_13, ix_12]; exact nI_add (253 + (n + 1)) 3
      refine sw_lald (pc := 43) F 1 rfl (by rw [ix_13]; exact vp_in_nI (by omega) (by decide)) dX10_comes_43 ?_
      refine sw_naml (e := (md_down 253 3 87 n S) ((253 + (n + 1)) + 3)) (by rw [(show x_13.toNatClampNeg = (253 + (n + 1)) + 3 by rw [ix_13]; exact nI_clamp (by omega))]) (fun x_14 ex_14 => ?_)
      obtain ⟨f_15, ef_15⟩ : ∃ y : Nat → Int64, y = vp_updL (md_down 253 3 87 n S) (253 + (n + 1)) x_14 := ⟨_, rfl⟩
      refine sw_last (pc := 44) (ws' := [(h0, .inr (10, [.ref b0, .ref b1, .int np, .int th, .long hh])), (b0, .inl (G.2.1.2, 344, .inr (.inl f_15))), (b1, .inl (G.2.1.2, 1032, .inr (.inl P)))]) F 1 rfl (by rw [ix_11]; exact vp_in_nI (by omega) (by decide)) dX10_comes_44 (by rw [ef_15, (show x_11.toNatClampNeg = 253 + (n + 1) by rw [ix_11]; exact nI_clamp (by omega))]; rfl) ?_
      obtain ⟨x_16, ex_16⟩ : ∃ y : Int32, y = k + 1 := ⟨_, rfl⟩
      refine sw_iinc (pc := 45) (v := x_16) (lv' := [(4, .int x_16), (0, .ref h0), (1, .int 253), (2, .int 3), (3, .int 30)]) F T.1 dX10_comes_45 (q := 0) rfl ex_16.symm (by decide) rfl ?_
      refine sw_goto (pc := 48) (tgt := 15) F dX10_comes_48 (by decide) ?_
      refine sw_lvs (is := [0, 1, 2, 3, 4]) (lv' := [(4, .int x_16), (0, .ref h0), (1, .int 253), (2, .int 3), (3, .int 30)]) rfl ?_
      subst ex_16
      subst ef_15
      subst ex_14
      subst ex_13
      subst ex_12
      subst ex_11
      refine sw_eq (ws' := [(h0, .inr (10, [.ref b0, .ref b1, .int np, .int th, .long hh])), (b0, .inl (G.2.1.2, 344, .inr (.inl (md_down 253 3 87 (n + 1) S)))), (b1, .inl (G.2.1.2, 1032, .inr (.inl P)))]) (lv' := [(4, .int (nI (n + 1 + 1))), (0, .ref h0), (1, .int 253), (2, .int 3), (3, .int 30)]) (by rw [← md_down_s 253 3 87 n (by decide) S]) (by rw [hk, nI_1]) rfl ?_
      exact ih (n + 1) (by omega) hfull
  refine sw_aload_n (pc := 0) F dX10_comes_0 rfl 0 rfl ?_
  refine sw_get (pc := 1) (Cn := RX10) (T := TX10) (N := 5) (ci := 10) (v := .ref b0) F in10 0 rfl rfl 0 (by decide) rfl (List.mem_of_getElem? (i := 1) rfl) rfl dX10_comes_1 ?_
  refine sw_iload_n (pc := 4) F dX10_comes_4 rfl 1 rfl ?_
  refine sw_lald (pc := 5) F 1 rfl (sw_in rfl) dX10_comes_5 ?_
  refine sw_naml (e := S 253) rfl (fun x_17 ex_17 => ?_)
  refine sw_iload_n (pc := 6) F dX10_comes_6 rfl 3 rfl ?_
  refine sw_i2l (pc := 7) (v := 30) F dX10_comes_7 rfl ?_
  refine sw_lcmp_ne (pc := 8) (tgt := 61) F dX10_comes_8 dX10_comes_9 (by decide) (fun c_18 => ?_) (fun c_18 => ?_)
  · skip
    refine sw_aload_n (pc := 61) F dX10_comes_61 rfl 0 rfl ?_
    refine sw_get (pc := 62) (Cn := RX10) (T := TX10) (N := 5) (ci := 10) (v := .ref b0) F in10 0 rfl rfl 0 (by decide) rfl (List.mem_of_getElem? (i := 1) rfl) rfl dX10_comes_62 ?_
    refine sw_iload_n (pc := 65) F dX10_comes_65 rfl 1 rfl ?_
    refine sw_dup2 (pc := 66) F dX10_comes_66 rfl rfl ?_
    refine sw_lald (pc := 67) F 1 rfl (sw_in rfl) dX10_comes_67 ?_
    refine sw_naml (e := S 253) rfl (fun x_19 ex_19 => ?_)
    refine sw_lconst (pc := 68) (v := 1) F dX10_comes_68 rfl ?_
    refine sw_ladd (pc := 69) F dX10_comes_69 ?_
    refine sw_topl (fun x_20 ex_20 => ?_)
    obtain ⟨f_21, ef_21⟩ : ∃ y : Nat → Int64, y = vp_updL S 253 x_20 := ⟨_, rfl⟩
    refine sw_last (pc := 70) (ws' := [(h0, .inr (10, [.ref b0, .ref b1, .int np, .int th, .long hh])), (b0, .inl (G.2.1.2, 344, .inr (.inl f_21))), (b1, .inl (G.2.1.2, 1032, .inr (.inl P)))]) F 1 rfl (sw_in rfl) dX10_comes_70 (by rw [ef_21]; rfl) ?_
    refine sw_iload_n (pc := 71) F dX10_comes_71 rfl 1 rfl ?_
    refine sw_iconst (pc := 72) (v := 1) F dX10_comes_72 rfl ?_
    refine sw_iadd (pc := 73) F dX10_comes_73 ?_
    refine sw_eqt (v := .int 254) (by rfl) ?_
    refine sw_iload_n (pc := 74) F dX10_comes_74 rfl 2 rfl ?_
    refine sw_aload_n (pc := 75) F dX10_comes_75 rfl 0 rfl ?_
    refine sw_get (pc := 76) (Cn := RX10) (T := TX10) (N := 5) (ci := 10) (v := .ref b0) F in10 0 rfl rfl 0 (by decide) rfl (List.mem_of_getElem? (i := 1) rfl) rfl dX10_comes_76 ?_
    refine sw_iload_n (pc := 79) F dX10_comes_79 rfl 1 rfl ?_
    refine sw_lald (pc := 80) F 1 rfl (sw_in rfl) dX10_comes_80 ?_
    refine sw_naml (e := f_21 253) rfl (fun x_22 ex_22 => ?_)
    refine sw_l2i (pc := 81) F dX10_comes_81 rfl ?_
    refine sw_iconst (pc := 82) (v := 1) F dX10_comes_82 rfl ?_
    refine sw_isub (pc := 83) F dX10_comes_83 ?_
    refine sw_topi (fun x_23 ex_23 => ?_)
    refine sw_imul (pc := 84) F dX10_comes_84 ?_
    refine sw_topi (fun x_24 ex_24 => ?_)
    refine sw_iadd (pc := 85) F dX10_comes_85 ?_
    refine sw_topi (fun x_25 ex_25 => ?_)
    subst ex_25
    subst ex_24
    subst ex_23
    subst ex_22
    subst ef_21
    subst ex_20
    subst ex_19
    subst ex_17
    have hS := md_end_not (most := 30) (top := 87) (w := 3) (md_nfull (by decide) hc.1 (x := 30) rfl c_18) hc.1
    refine sw_iret (pc := 86) F T rfl rfl (md_comes 253 3 30 87 S) ⟨?_, rfl⟩ (by rw [← hS]) dX10_comes_86
    rw [← md_ret (top := 87) (w := 3) (by decide) (by decide) hc.2 254 3 rfl rfl, ← hS]
  · skip
    refine sw_iconst (pc := 12) (v := 1) F dX10_comes_12 rfl ?_
    refine sw_istore (pc := 13) (lv' := [(4, .int 1), (0, .ref h0), (1, .int 253), (2, .int 3), (3, .int 30)]) F T.1 dX10_comes_13 (by decide) rfl ?_
    refine sw_lvs (is := [0, 1, 2, 3, 4]) (lv' := [(4, .int 1), (0, .ref h0), (1, .int 253), (2, .int 3), (3, .int 30)]) rfl ?_
    subst ex_17
    refine sw_eq (ws' := [(h0, .inr (10, [.ref b0, .ref b1, .int np, .int th, .long hh])), (b0, .inl (G.2.1.2, 344, .inr (.inl (md_down 253 3 87 0 S)))), (b1, .inl (G.2.1.2, 1032, .inr (.inl P)))]) (by rw [← md_down_0]) rfl rfl ?_
    exact loop 87 0 rfl (md_full (by decide) hc.1 (x := 30) rfl c_18)
set_option maxHeartbeats 4000000 in
set_option maxRecDepth 100000 in
theorem k_X10_comes_63 (l : Launch) (G : sw_E) (h0 : Nat) (b0 : Nat) (b1 : Nat) (np : Int32) (th : Int32) (hh : Int64) (S : Nat → Int64) (P : Nat → Int64) (hc : 0 ≤ (S 63).toInt ∧ (S 63).toInt ≤ 24) : sw_M l G yX10_comes wsX10_comes ({ frames := 0, cells := 0, slots := 0, locals := 0 } : Room) [.ref h0, .int 63, .int 7, .int 24] [(h0, .inr (10, [.ref b0, .ref b1, .int np, .int th, .long hh])), (b0, .inl (G.2.1.2, 344, .inr (.inl S))), (b1, .inl (G.2.1.2, 1032, .inr (.inl P)))] (sw_QI G (S := Nat → Int64) (fun (r : Int32) (u : Nat → Int64) => r = nI (md_at 63 7 24 S) ∧ u = md_comes 63 7 24 161 S) (fun u => [(h0, .inr (10, [.ref b0, .ref b1, .int np, .int th, .long hh])), (b0, .inl (G.2.1.2, 344, .inr (.inl u))), (b1, .inl (G.2.1.2, 1032, .inr (.inl P)))])) 0 0 := by
  refine sw_start (cc := cX10_comes) (maxL := 5) (ret := some .int) (lv := [(0, .ref h0), (1, .int 63), (2, .int 7), (3, .int 24)]) (own := RX10) (nm := "comes") (by decide +kernel) rfl rfl rfl rfl (Nat.le_of_ble_eq_true rfl) (fun C F T => ?_)
  have in10 : ∀ w ∈ u_ws RX10 TX10 5, w ∈ wsX10_comes := fun w h => List.mem_cons_of_mem _ (List.mem_append_right _ (h))
  have hcn := md_cn_le (b := 63) (most := 24) (S := S) (by decide) hc.2
  have tail : ∀ (lv : List (Nat × Value)) (S1 : Nat → Int64) (x : Int64), True → True := fun _ _ _ _ => trivial
  have loop : ∀ (m n : Nat), m + n = 161 → (S 63).toInt.toNat = 24 → SW G C 0 0 [(h0, .inr (10, [.ref b0, .ref b1, .int np, .int th, .long hh])), (b0, .inl (G.2.1.2, 344, .inr (.inl (md_down 63 7 161 n S)))), (b1, .inl (G.2.1.2, 1032, .inr (.inl P)))] [(4, .int (nI (n + 1))), (0, .ref h0), (1, .int 63), (2, .int 7), (3, .int 24)] 15 [] := by
    intro m
    induction m with
    | zero =>
      intro n hn hfull
      refine sw_iload (pc := 15) F dX10_comes_15 0 rfl ?_
      refine sw_iload_n (pc := 17) F dX10_comes_17 rfl 3 rfl ?_
      refine sw_iload_n (pc := 18) F dX10_comes_18 rfl 4 rfl ?_
      refine sw_iconst (pc := 19) (v := 1) F dX10_comes_19 rfl ?_
      refine sw_isub (pc := 20) F dX10_comes_20 ?_
      refine sw_eqt (v := .int 23) (by rfl) ?_
      refine sw_imul (pc := 21) F dX10_comes_21 ?_
      refine sw_eqt (v := .int 161) (by rfl) ?_
      refine sw_icmp_gt (pc := 22) (tgt := 51) F dX10_comes_22 (by decide) (fun _ => ?_) (fun c => absurd (nI_lt (a := 161) (b := n + 1) (by omega) (by omega)) c)
      refine sw_aload_n (pc := 51) F dX10_comes_51 rfl 1 rfl ?_
      refine sw_get (pc := 52) (Cn := RX10) (T := TX10) (N := 5) (ci := 10) (v := .ref b0) F in10 0 rfl rfl 0 (by decide) rfl (List.mem_of_getElem? (i := 1) rfl) rfl dX10_comes_52 ?_
      refine sw_iload_n (pc := 55) F dX10_comes_55 rfl 2 rfl ?_
      refine sw_dup2 (pc := 56) F dX10_comes_56 rfl rfl ?_
      refine sw_lald (pc := 57) F 1 rfl (sw_in rfl) dX10_comes_57 ?_
      refine sw_naml (e := (md_down 63 7 161 n S) 63) rfl (fun x_1 ex_1 => ?_)
      refine sw_lconst (pc := 58) (v := 1) F dX10_comes_58 rfl ?_
      refine sw_lsub (pc := 59) F dX10_comes_59 ?_
      refine sw_topl (fun x_2 ex_2 => ?_)
      obtain ⟨f_3, ef_3⟩ : ∃ y : Nat → Int64, y = vp_updL (md_down 63 7 161 n S) 63 x_2 := ⟨_, rfl⟩
      refine sw_last (pc := 60) (ws' := [(h0, .inr (10, [.ref b0, .ref b1, .int np, .int th, .long hh])), (b0, .inl (G.2.1.2, 344, .inr (.inl f_3))), (b1, .inl (G.2.1.2, 1032, .inr (.inl P)))]) F 1 rfl (sw_in rfl) dX10_comes_60 (by rw [ef_3]; rfl) ?_
      refine sw_aload_n (pc := 61) F dX10_comes_61 rfl 1 rfl ?_
      refine sw_get (pc := 62) (Cn := RX10) (T := TX10) (N := 5) (ci := 10) (v := .ref b0) F in10 0 rfl rfl 0 (by decide) rfl (List.mem_of_getElem? (i := 1) rfl) rfl dX10_comes_62 ?_
      refine sw_iload_n (pc := 65) F dX10_comes_65 rfl 2 rfl ?_
      refine sw_dup2 (pc := 66) F dX10_comes_66 rfl rfl ?_
      refine sw_lald (pc := 67) F 1 rfl (sw_in rfl) dX10_comes_67 ?_
      refine sw_naml (e := f_3 63) rfl (fun x_4 ex_4 => ?_)
      refine sw_lconst (pc := 68) (v := 1) F dX10_comes_68 rfl ?_
      refine sw_ladd (pc := 69) F dX10_comes_69 ?_
      refine sw_topl (fun x_5 ex_5 => ?_)
      obtain ⟨f_6, ef_6⟩ : ∃ y : Nat → Int64, y = vp_updL f_3 63 x_5 := ⟨_, rfl⟩
      refine sw_last (pc := 70) (ws' := [(h0, .inr (10, [.ref b0, .ref b1, .int np, .int th, .long hh])), (b0, .inl (G.2.1.2, 344, .inr (.inl f_6))), (b1, .inl (G.2.1.2, 1032, .inr (.inl P)))]) F 1 rfl (sw_in rfl) dX10_comes_70 (by rw [ef_6]; rfl) ?_
      refine sw_iload_n (pc := 71) F dX10_comes_71 rfl 2 rfl ?_
      refine sw_iconst (pc := 72) (v := 1) F dX10_comes_72 rfl ?_
      refine sw_iadd (pc := 73) F dX10_comes_73 ?_
      refine sw_eqt (v := .int 64) (by rfl) ?_
      refine sw_iload_n (pc := 74) F dX10_comes_74 rfl 3 rfl ?_
      refine sw_aload_n (pc := 75) F dX10_comes_75 rfl 1 rfl ?_
      refine sw_get (pc := 76) (Cn := RX10) (T := TX10) (N := 5) (ci := 10) (v := .ref b0) F in10 0 rfl rfl 0 (by decide) rfl (List.mem_of_getElem? (i := 1) rfl) rfl dX10_comes_76 ?_
      refine sw_iload_n (pc := 79) F dX10_comes_79 rfl 2 rfl ?_
      refine sw_lald (pc := 80) F 1 rfl (sw_in rfl) dX10_comes_80 ?_
      refine sw_naml (e := f_6 63) rfl (fun x_7 ex_7 => ?_)
      refine sw_l2i (pc := 81) F dX10_comes_81 rfl ?_
      refine sw_iconst (pc := 82) (v := 1) F dX10_comes_82 rfl ?_
      refine sw_isub (pc := 83) F dX10_comes_83 ?_
      refine sw_topi (fun x_8 ex_8 => ?_)
      refine sw_imul (pc := 84) F dX10_comes_84 ?_
      refine sw_topi (fun x_9 ex_9 => ?_)
      refine sw_iadd (pc := 85) F dX10_comes_85 ?_
      refine sw_topi (fun x_10 ex_10 => ?_)
      subst ex_10
      subst ex_9
      subst ex_8
      subst ex_7
      subst ef_6
      subst ex_5
      subst ex_4
      subst ef_3
      subst ex_2
      subst ex_1
      have hS := md_end_full (most := 24) (top := 161) (w := 7) (by decide) (by decide) hfull hc.1 (show md_down 63 7 161 n S = md_down 63 7 161 161 S by rw [show n = 161 by omega]) _ rfl
      refine sw_iret (pc := 86) F T rfl rfl (md_comes 63 7 24 161 S) ⟨?_, rfl⟩ (by rw [← hS]) dX10_comes_86
      rw [← md_ret (top := 161) (w := 7) (by decide) (by decide) hc.2 64 7 rfl rfl, ← hS]
    | succ m ih =>
      intro n hn hfull
      obtain ⟨k, hk⟩ : ∃ k, k = nI (n + 1) := ⟨_, rfl⟩
      rw [← hk]
      refine sw_iload (pc := 15) F dX10_comes_15 0 rfl ?_
      refine sw_iload_n (pc := 17) F dX10_comes_17 rfl 3 rfl ?_
      refine sw_iload_n (pc := 18) F dX10_comes_18 rfl 4 rfl ?_
      refine sw_iconst (pc := 19) (v := 1) F dX10_comes_19 rfl ?_
      refine sw_isub (pc := 20) F dX10_comes_20 ?_
      refine sw_eqt (v := .int 23) (by rfl) ?_
      refine sw_imul (pc := 21) F dX10_comes_21 ?_
      refine sw_eqt (v := .int 161) (by rfl) ?_
      refine sw_icmp_gt (pc := 22) (tgt := 51) F dX10_comes_22 (by decide) (fun c => absurd c (by rw [hk]; exact nI_nlt (a := 161) (b := n + 1) (by omega) (by omega))) (fun _ => ?_)
      refine sw_aload_n (pc := 25) F dX10_comes_25 rfl 1 rfl ?_
      refine sw_get (pc := 26) (Cn := RX10) (T := TX10) (N := 5) (ci := 10) (v := .ref b0) F in10 0 rfl rfl 0 (by decide) rfl (List.mem_of_getElem? (i := 1) rfl) rfl dX10_comes_26 ?_
      refine sw_iload_n (pc := 29) F dX10_comes_29 rfl 2 rfl ?_
      refine sw_iload (pc := 30) F dX10_comes_30 0 rfl ?_
      refine sw_iadd (pc := 32) F dX10_comes_32 ?_
      refine sw_topi (fun x_11 ex_11 => ?_)
      have ix_11 : x_11 = nI (63 + (n + 1)) := by rw [ex_11, hk]; exact nI_add 63 (n + 1)
      refine sw_aload_n (pc := 33) F dX10_comes_33 rfl 1 rfl ?_
      refine sw_get (pc := 34) (Cn := RX10) (T := TX10) (N := 5) (ci := 10) (v := .ref b0) F in10 0 rfl rfl 0 (by decide) rfl (List.mem_of_getElem? (i := 1) rfl) rfl dX10_comes_34 ?_
      refine sw_iload_n (pc := 37) F dX10_comes_37 rfl 2 rfl ?_
      refine sw_iload (pc := 38) F dX10_comes_38 0 rfl ?_
      refine sw_iadd (pc := 40) F dX10_comes_40 ?_
      refine sw_topi (fun x_12 ex_12 => ?_)
      have ix_12 : x_12 = nI (63 + (n + 1)) := by rw [ex_12, hk]; exact nI_add 63 (n + 1)
      refine sw_iload_n (pc := 41) F dX10_comes_41 rfl 3 rfl ?_
      refine sw_iadd (pc := 42) F dX10_comes_42 ?_
      refine sw_topi (fun x_13 ex_13 => ?_)
      have ix_13 : x_13 = nI ((63 + (n + 1)) + 7) := by rw [ex_13, ix_12]; exact nI_add (63 + (n + 1)) 7
      refine sw_lald (pc := 43) F 1 rfl (by rw [ix_13]; exact vp_in_nI (by omega) (by decide)) dX10_comes_43 ?_
      refine sw_naml (e := (md_down 63 7 161 n S) ((63 + (n + 1)) + 7)) (by rw [(show x_13.toNatClampNeg = (63 + (n + 1)) + 7 by rw [ix_13]; exact nI_clamp (by omega))]) (fun x_14 ex_14 => ?_)
      obtain ⟨f_15, ef_15⟩ : ∃ y : Nat → Int64, y = vp_updL (md_down 63 7 161 n S) (63 + (n + 1)) x_14 := ⟨_, rfl⟩
      refine sw_last (pc := 44) (ws' := [(h0, .inr (10, [.ref b0, .ref b1, .int np, .int th, .long hh])), (b0, .inl (G.2.1.2, 344, .inr (.inl f_15))), (b1, .inl (G.2.1.2, 1032, .inr (.inl P)))]) F 1 rfl (by rw [ix_11]; exact vp_in_nI (by omega) (by decide)) dX10_comes_44 (by rw [ef_15, (show x_11.toNatClampNeg = 63 + (n + 1) by rw [ix_11]; exact nI_clamp (by omega))]; rfl) ?_
      obtain ⟨x_16, ex_16⟩ : ∃ y : Int32, y = k + 1 := ⟨_, rfl⟩
      refine sw_iinc (pc := 45) (v := x_16) (lv' := [(4, .int x_16), (0, .ref h0), (1, .int 63), (2, .int 7), (3, .int 24)]) F T.1 dX10_comes_45 (q := 0) rfl ex_16.symm (by decide) rfl ?_
      refine sw_goto (pc := 48) (tgt := 15) F dX10_comes_48 (by decide) ?_
      refine sw_lvs (is := [0, 1, 2, 3, 4]) (lv' := [(4, .int x_16), (0, .ref h0), (1, .int 63), (2, .int 7), (3, .int 24)]) rfl ?_
      subst ex_16
      subst ef_15
      subst ex_14
      subst ex_13
      subst ex_12
      subst ex_11
      refine sw_eq (ws' := [(h0, .inr (10, [.ref b0, .ref b1, .int np, .int th, .long hh])), (b0, .inl (G.2.1.2, 344, .inr (.inl (md_down 63 7 161 (n + 1) S)))), (b1, .inl (G.2.1.2, 1032, .inr (.inl P)))]) (lv' := [(4, .int (nI (n + 1 + 1))), (0, .ref h0), (1, .int 63), (2, .int 7), (3, .int 24)]) (by rw [← md_down_s 63 7 161 n (by decide) S]) (by rw [hk, nI_1]) rfl ?_
      exact ih (n + 1) (by omega) hfull
  refine sw_aload_n (pc := 0) F dX10_comes_0 rfl 0 rfl ?_
  refine sw_get (pc := 1) (Cn := RX10) (T := TX10) (N := 5) (ci := 10) (v := .ref b0) F in10 0 rfl rfl 0 (by decide) rfl (List.mem_of_getElem? (i := 1) rfl) rfl dX10_comes_1 ?_
  refine sw_iload_n (pc := 4) F dX10_comes_4 rfl 1 rfl ?_
  refine sw_lald (pc := 5) F 1 rfl (sw_in rfl) dX10_comes_5 ?_
  refine sw_naml (e := S 63) rfl (fun x_17 ex_17 => ?_)
  refine sw_iload_n (pc := 6) F dX10_comes_6 rfl 3 rfl ?_
  refine sw_i2l (pc := 7) (v := 24) F dX10_comes_7 rfl ?_
  refine sw_lcmp_ne (pc := 8) (tgt := 61) F dX10_comes_8 dX10_comes_9 (by decide) (fun c_18 => ?_) (fun c_18 => ?_)
  · skip
    refine sw_aload_n (pc := 61) F dX10_comes_61 rfl 0 rfl ?_
    refine sw_get (pc := 62) (Cn := RX10) (T := TX10) (N := 5) (ci := 10) (v := .ref b0) F in10 0 rfl rfl 0 (by decide) rfl (List.mem_of_getElem? (i := 1) rfl) rfl dX10_comes_62 ?_
    refine sw_iload_n (pc := 65) F dX10_comes_65 rfl 1 rfl ?_
    refine sw_dup2 (pc := 66) F dX10_comes_66 rfl rfl ?_
    refine sw_lald (pc := 67) F 1 rfl (sw_in rfl) dX10_comes_67 ?_
    refine sw_naml (e := S 63) rfl (fun x_19 ex_19 => ?_)
    refine sw_lconst (pc := 68) (v := 1) F dX10_comes_68 rfl ?_
    refine sw_ladd (pc := 69) F dX10_comes_69 ?_
    refine sw_topl (fun x_20 ex_20 => ?_)
    obtain ⟨f_21, ef_21⟩ : ∃ y : Nat → Int64, y = vp_updL S 63 x_20 := ⟨_, rfl⟩
    refine sw_last (pc := 70) (ws' := [(h0, .inr (10, [.ref b0, .ref b1, .int np, .int th, .long hh])), (b0, .inl (G.2.1.2, 344, .inr (.inl f_21))), (b1, .inl (G.2.1.2, 1032, .inr (.inl P)))]) F 1 rfl (sw_in rfl) dX10_comes_70 (by rw [ef_21]; rfl) ?_
    refine sw_iload_n (pc := 71) F dX10_comes_71 rfl 1 rfl ?_
    refine sw_iconst (pc := 72) (v := 1) F dX10_comes_72 rfl ?_
    refine sw_iadd (pc := 73) F dX10_comes_73 ?_
    refine sw_eqt (v := .int 64) (by rfl) ?_
    refine sw_iload_n (pc := 74) F dX10_comes_74 rfl 2 rfl ?_
    refine sw_aload_n (pc := 75) F dX10_comes_75 rfl 0 rfl ?_
    refine sw_get (pc := 76) (Cn := RX10) (T := TX10) (N := 5) (ci := 10) (v := .ref b0) F in10 0 rfl rfl 0 (by decide) rfl (List.mem_of_getElem? (i := 1) rfl) rfl dX10_comes_76 ?_
    refine sw_iload_n (pc := 79) F dX10_comes_79 rfl 1 rfl ?_
    refine sw_lald (pc := 80) F 1 rfl (sw_in rfl) dX10_comes_80 ?_
    refine sw_naml (e := f_21 63) rfl (fun x_22 ex_22 => ?_)
    refine sw_l2i (pc := 81) F dX10_comes_81 rfl ?_
    refine sw_iconst (pc := 82) (v := 1) F dX10_comes_82 rfl ?_
    refine sw_isub (pc := 83) F dX10_comes_83 ?_
    refine sw_topi (fun x_23 ex_23 => ?_)
    refine sw_imul (pc := 84) F dX10_comes_84 ?_
    refine sw_topi (fun x_24 ex_24 => ?_)
    refine sw_iadd (pc := 85) F dX10_comes_85 ?_
    refine sw_topi (fun x_25 ex_25 => ?_)
    subst ex_25
    subst ex_24
    subst ex_23
    subst ex_22
    subst ef_21
    subst ex_20
    subst ex_19
    subst ex_17
    have hS := md_end_not (most := 24) (top := 161) (w := 7) (md_nfull (by decide) hc.1 (x := 24) rfl c_18) hc.1
    refine sw_iret (pc := 86) F T rfl rfl (md_comes 63 7 24 161 S) ⟨?_, rfl⟩ (by rw [← hS]) dX10_comes_86
    rw [← md_ret (top := 161) (w := 7) (by decide) (by decide) hc.2 64 7 rfl rfl, ← hS]
  · skip
    refine sw_iconst (pc := 12) (v := 1) F dX10_comes_12 rfl ?_
    refine sw_istore (pc := 13) (lv' := [(4, .int 1), (0, .ref h0), (1, .int 63), (2, .int 7), (3, .int 24)]) F T.1 dX10_comes_13 (by decide) rfl ?_
    refine sw_lvs (is := [0, 1, 2, 3, 4]) (lv' := [(4, .int 1), (0, .ref h0), (1, .int 63), (2, .int 7), (3, .int 24)]) rfl ?_
    subst ex_17
    refine sw_eq (ws' := [(h0, .inr (10, [.ref b0, .ref b1, .int np, .int th, .long hh])), (b0, .inl (G.2.1.2, 344, .inr (.inl (md_down 63 7 161 0 S)))), (b1, .inl (G.2.1.2, 1032, .inr (.inl P)))]) (by rw [← md_down_0]) rfl rfl ?_
    exact loop 161 0 rfl (md_full (by decide) hc.1 (x := 24) rfl c_18)
set_option maxHeartbeats 4000000 in
set_option maxRecDepth 100000 in
theorem k_X10_comes_232 (l : Launch) (G : sw_E) (h0 : Nat) (b0 : Nat) (b1 : Nat) (np : Int32) (th : Int32) (hh : Int64) (S : Nat → Int64) (P : Nat → Int64) (hc : 0 ≤ (S 232).toInt ∧ (S 232).toInt ≤ 5) : sw_M l G yX10_comes wsX10_comes ({ frames := 0, cells := 0, slots := 0, locals := 0 } : Room) [.ref h0, .int 232, .int 4, .int 5] [(h0, .inr (10, [.ref b0, .ref b1, .int np, .int th, .long hh])), (b0, .inl (G.2.1.2, 344, .inr (.inl S))), (b1, .inl (G.2.1.2, 1032, .inr (.inl P)))] (sw_QI G (S := Nat → Int64) (fun (r : Int32) (u : Nat → Int64) => r = nI (md_at 232 4 5 S) ∧ u = md_comes 232 4 5 16 S) (fun u => [(h0, .inr (10, [.ref b0, .ref b1, .int np, .int th, .long hh])), (b0, .inl (G.2.1.2, 344, .inr (.inl u))), (b1, .inl (G.2.1.2, 1032, .inr (.inl P)))])) 0 0 := by
  refine sw_start (cc := cX10_comes) (maxL := 5) (ret := some .int) (lv := [(0, .ref h0), (1, .int 232), (2, .int 4), (3, .int 5)]) (own := RX10) (nm := "comes") (by decide +kernel) rfl rfl rfl rfl (Nat.le_of_ble_eq_true rfl) (fun C F T => ?_)
  have in10 : ∀ w ∈ u_ws RX10 TX10 5, w ∈ wsX10_comes := fun w h => List.mem_cons_of_mem _ (List.mem_append_right _ (h))
  have hcn := md_cn_le (b := 232) (most := 5) (S := S) (by decide) hc.2
  have tail : ∀ (lv : List (Nat × Value)) (S1 : Nat → Int64) (x : Int64), True → True := fun _ _ _ _ => trivial
  have loop : ∀ (m n : Nat), m + n = 16 → (S 232).toInt.toNat = 5 → SW G C 0 0 [(h0, .inr (10, [.ref b0, .ref b1, .int np, .int th, .long hh])), (b0, .inl (G.2.1.2, 344, .inr (.inl (md_down 232 4 16 n S)))), (b1, .inl (G.2.1.2, 1032, .inr (.inl P)))] [(4, .int (nI (n + 1))), (0, .ref h0), (1, .int 232), (2, .int 4), (3, .int 5)] 15 [] := by
    intro m
    induction m with
    | zero =>
      intro n hn hfull
      refine sw_iload (pc := 15) F dX10_comes_15 0 rfl ?_
      refine sw_iload_n (pc := 17) F dX10_comes_17 rfl 3 rfl ?_
      refine sw_iload_n (pc := 18) F dX10_comes_18 rfl 4 rfl ?_
      refine sw_iconst (pc := 19) (v := 1) F dX10_comes_19 rfl ?_
      refine sw_isub (pc := 20) F dX10_comes_20 ?_
      refine sw_eqt (v := .int 4) (by rfl) ?_
      refine sw_imul (pc := 21) F dX10_comes_21 ?_
      refine sw_eqt (v := .int 16) (by rfl) ?_
      refine sw_icmp_gt (pc := 22) (tgt := 51) F dX10_comes_22 (by decide) (fun _ => ?_) (fun c => absurd (nI_lt (a := 16) (b := n + 1) (by omega) (by omega)) c)
      refine sw_aload_n (pc := 51) F dX10_comes_51 rfl 1 rfl ?_
      refine sw_get (pc := 52) (Cn := RX10) (T := TX10) (N := 5) (ci := 10) (v := .ref b0) F in10 0 rfl rfl 0 (by decide) rfl (List.mem_of_getElem? (i := 1) rfl) rfl dX10_comes_52 ?_
      refine sw_iload_n (pc := 55) F dX10_comes_55 rfl 2 rfl ?_
      refine sw_dup2 (pc := 56) F dX10_comes_56 rfl rfl ?_
      refine sw_lald (pc := 57) F 1 rfl (sw_in rfl) dX10_comes_57 ?_
      refine sw_naml (e := (md_down 232 4 16 n S) 232) rfl (fun x_1 ex_1 => ?_)
      refine sw_lconst (pc := 58) (v := 1) F dX10_comes_58 rfl ?_
      refine sw_lsub (pc := 59) F dX10_comes_59 ?_
      refine sw_topl (fun x_2 ex_2 => ?_)
      obtain ⟨f_3, ef_3⟩ : ∃ y : Nat → Int64, y = vp_updL (md_down 232 4 16 n S) 232 x_2 := ⟨_, rfl⟩
      refine sw_last (pc := 60) (ws' := [(h0, .inr (10, [.ref b0, .ref b1, .int np, .int th, .long hh])), (b0, .inl (G.2.1.2, 344, .inr (.inl f_3))), (b1, .inl (G.2.1.2, 1032, .inr (.inl P)))]) F 1 rfl (sw_in rfl) dX10_comes_60 (by rw [ef_3]; rfl) ?_
      refine sw_aload_n (pc := 61) F dX10_comes_61 rfl 1 rfl ?_
      refine sw_get (pc := 62) (Cn := RX10) (T := TX10) (N := 5) (ci := 10) (v := .ref b0) F in10 0 rfl rfl 0 (by decide) rfl (List.mem_of_getElem? (i := 1) rfl) rfl dX10_comes_62 ?_
      refine sw_iload_n (pc := 65) F dX10_comes_65 rfl 2 rfl ?_
      refine sw_dup2 (pc := 66) F dX10_comes_66 rfl rfl ?_
      refine sw_lald (pc := 67) F 1 rfl (sw_in rfl) dX10_comes_67 ?_
      refine sw_naml (e := f_3 232) rfl (fun x_4 ex_4 => ?_)
      refine sw_lconst (pc := 68) (v := 1) F dX10_comes_68 rfl ?_
      refine sw_ladd (pc := 69) F dX10_comes_69 ?_
      refine sw_topl (fun x_5 ex_5 => ?_)
      obtain ⟨f_6, ef_6⟩ : ∃ y : Nat → Int64, y = vp_updL f_3 232 x_5 := ⟨_, rfl⟩
      refine sw_last (pc := 70) (ws' := [(h0, .inr (10, [.ref b0, .ref b1, .int np, .int th, .long hh])), (b0, .inl (G.2.1.2, 344, .inr (.inl f_6))), (b1, .inl (G.2.1.2, 1032, .inr (.inl P)))]) F 1 rfl (sw_in rfl) dX10_comes_70 (by rw [ef_6]; rfl) ?_
      refine sw_iload_n (pc := 71) F dX10_comes_71 rfl 2 rfl ?_
      refine sw_iconst (pc := 72) (v := 1) F dX10_comes_72 rfl ?_
      refine sw_iadd (pc := 73) F dX10_comes_73 ?_
      refine sw_eqt (v := .int 233) (by rfl) ?_
      refine sw_iload_n (pc := 74) F dX10_comes_74 rfl 3 rfl ?_
      refine sw_aload_n (pc := 75) F dX10_comes_75 rfl 1 rfl ?_
      refine sw_get (pc := 76) (Cn := RX10) (T := TX10) (N := 5) (ci := 10) (v := .ref b0) F in10 0 rfl rfl 0 (by decide) rfl (List.mem_of_getElem? (i := 1) rfl) rfl dX10_comes_76 ?_
      refine sw_iload_n (pc := 79) F dX10_comes_79 rfl 2 rfl ?_
      refine sw_lald (pc := 80) F 1 rfl (sw_in rfl) dX10_comes_80 ?_
      refine sw_naml (e := f_6 232) rfl (fun x_7 ex_7 => ?_)
      refine sw_l2i (pc := 81) F dX10_comes_81 rfl ?_
      refine sw_iconst (pc := 82) (v := 1) F dX10_comes_82 rfl ?_
      refine sw_isub (pc := 83) F dX10_comes_83 ?_
      refine sw_topi (fun x_8 ex_8 => ?_)
      refine sw_imul (pc := 84) F dX10_comes_84 ?_
      refine sw_topi (fun x_9 ex_9 => ?_)
      refine sw_iadd (pc := 85) F dX10_comes_85 ?_
      refine sw_topi (fun x_10 ex_10 => ?_)
      subst ex_10
      subst ex_9
      subst ex_8
      subst ex_7
      subst ef_6
      subst ex_5
      subst ex_4
      subst ef_3
      subst ex_2
      subst ex_1
      have hS := md_end_full (most := 5) (top := 16) (w := 4) (by decide) (by decide) hfull hc.1 (show md_down 232 4 16 n S = md_down 232 4 16 16 S by rw [show n = 16 by omega]) _ rfl
      refine sw_iret (pc := 86) F T rfl rfl (md_comes 232 4 5 16 S) ⟨?_, rfl⟩ (by rw [← hS]) dX10_comes_86
      rw [← md_ret (top := 16) (w := 4) (by decide) (by decide) hc.2 233 4 rfl rfl, ← hS]
    | succ m ih =>
      intro n hn hfull
      obtain ⟨k, hk⟩ : ∃ k, k = nI (n + 1) := ⟨_, rfl⟩
      rw [← hk]
      refine sw_iload (pc := 15) F dX10_comes_15 0 rfl ?_
      refine sw_iload_n (pc := 17) F dX10_comes_17 rfl 3 rfl ?_
      refine sw_iload_n (pc := 18) F dX10_comes_18 rfl 4 rfl ?_
      refine sw_iconst (pc := 19) (v := 1) F dX10_comes_19 rfl ?_
      refine sw_isub (pc := 20) F dX10_comes_20 ?_
      refine sw_eqt (v := .int 4) (by rfl) ?_
      refine sw_imul (pc := 21) F dX10_comes_21 ?_
      refine sw_eqt (v := .int 16) (by rfl) ?_
      refine sw_icmp_gt (pc := 22) (tgt := 51) F dX10_comes_22 (by decide) (fun c => absurd c (by rw [hk]; exact nI_nlt (a := 16) (b := n + 1) (by omega) (by omega))) (fun _ => ?_)
      refine sw_aload_n (pc := 25) F dX10_comes_25 rfl 1 rfl ?_
      refine sw_get (pc := 26) (Cn := RX10) (T := TX10) (N := 5) (ci := 10) (v := .ref b0) F in10 0 rfl rfl 0 (by decide) rfl (List.mem_of_getElem? (i := 1) rfl) rfl dX10_comes_26 ?_
      refine sw_iload_n (pc := 29) F dX10_comes_29 rfl 2 rfl ?_
      refine sw_iload (pc := 30) F dX10_comes_30 0 rfl ?_
      refine sw_iadd (pc := 32) F dX10_comes_32 ?_
      refine sw_topi (fun x_11 ex_11 => ?_)
      have ix_11 : x_11 = nI (232 + (n + 1)) := by rw [ex_11, hk]; exact nI_add 232 (n + 1)
      refine sw_aload_n (pc := 33) F dX10_comes_33 rfl 1 rfl ?_
      refine sw_get (pc := 34) (Cn := RX10) (T := TX10) (N := 5) (ci := 10) (v := .ref b0) F in10 0 rfl rfl 0 (by decide) rfl (List.mem_of_getElem? (i := 1) rfl) rfl dX10_comes_34 ?_
      refine sw_iload_n (pc := 37) F dX10_comes_37 rfl 2 rfl ?_
      refine sw_iload (pc := 38) F dX10_comes_38 0 rfl ?_
      refine sw_iadd (pc := 40) F dX10_comes_40 ?_
      refine sw_topi (fun x_12 ex_12 => ?_)
      have ix_12 : x_12 = nI (232 + (n + 1)) := by rw [ex_12, hk]; exact nI_add 232 (n + 1)
      refine sw_iload_n (pc := 41) F dX10_comes_41 rfl 3 rfl ?_
      refine sw_iadd (pc := 42) F dX10_comes_42 ?_
      refine sw_topi (fun x_13 ex_13 => ?_)
      have ix_13 : x_13 = nI ((232 + (n + 1)) + 4) := by rw [ex_13, ix_12]; exact nI_add (232 + (n + 1)) 4
      refine sw_lald (pc := 43) F 1 rfl (by rw [ix_13]; exact vp_in_nI (by omega) (by decide)) dX10_comes_43 ?_
      refine sw_naml (e := (md_down 232 4 16 n S) ((232 + (n + 1)) + 4)) (by rw [(show x_13.toNatClampNeg = (232 + (n + 1)) + 4 by rw [ix_13]; exact nI_clamp (by omega))]) (fun x_14 ex_14 => ?_)
      obtain ⟨f_15, ef_15⟩ : ∃ y : Nat → Int64, y = vp_updL (md_down 232 4 16 n S) (232 + (n + 1)) x_14 := ⟨_, rfl⟩
      refine sw_last (pc := 44) (ws' := [(h0, .inr (10, [.ref b0, .ref b1, .int np, .int th, .long hh])), (b0, .inl (G.2.1.2, 344, .inr (.inl f_15))), (b1, .inl (G.2.1.2, 1032, .inr (.inl P)))]) F 1 rfl (by rw [ix_11]; exact vp_in_nI (by omega) (by decide)) dX10_comes_44 (by rw [ef_15, (show x_11.toNatClampNeg = 232 + (n + 1) by rw [ix_11]; exact nI_clamp (by omega))]; rfl) ?_
      obtain ⟨x_16, ex_16⟩ : ∃ y : Int32, y = k + 1 := ⟨_, rfl⟩
      refine sw_iinc (pc := 45) (v := x_16) (lv' := [(4, .int x_16), (0, .ref h0), (1, .int 232), (2, .int 4), (3, .int 5)]) F T.1 dX10_comes_45 (q := 0) rfl ex_16.symm (by decide) rfl ?_
      refine sw_goto (pc := 48) (tgt := 15) F dX10_comes_48 (by decide) ?_
      refine sw_lvs (is := [0, 1, 2, 3, 4]) (lv' := [(4, .int x_16), (0, .ref h0), (1, .int 232), (2, .int 4), (3, .int 5)]) rfl ?_
      subst ex_16
      subst ef_15
      subst ex_14
      subst ex_13
      subst ex_12
      subst ex_11
      refine sw_eq (ws' := [(h0, .inr (10, [.ref b0, .ref b1, .int np, .int th, .long hh])), (b0, .inl (G.2.1.2, 344, .inr (.inl (md_down 232 4 16 (n + 1) S)))), (b1, .inl (G.2.1.2, 1032, .inr (.inl P)))]) (lv' := [(4, .int (nI (n + 1 + 1))), (0, .ref h0), (1, .int 232), (2, .int 4), (3, .int 5)]) (by rw [← md_down_s 232 4 16 n (by decide) S]) (by rw [hk, nI_1]) rfl ?_
      exact ih (n + 1) (by omega) hfull
  refine sw_aload_n (pc := 0) F dX10_comes_0 rfl 0 rfl ?_
  refine sw_get (pc := 1) (Cn := RX10) (T := TX10) (N := 5) (ci := 10) (v := .ref b0) F in10 0 rfl rfl 0 (by decide) rfl (List.mem_of_getElem? (i := 1) rfl) rfl dX10_comes_1 ?_
  refine sw_iload_n (pc := 4) F dX10_comes_4 rfl 1 rfl ?_
  refine sw_lald (pc := 5) F 1 rfl (sw_in rfl) dX10_comes_5 ?_
  refine sw_naml (e := S 232) rfl (fun x_17 ex_17 => ?_)
  refine sw_iload_n (pc := 6) F dX10_comes_6 rfl 3 rfl ?_
  refine sw_i2l (pc := 7) (v := 5) F dX10_comes_7 rfl ?_
  refine sw_lcmp_ne (pc := 8) (tgt := 61) F dX10_comes_8 dX10_comes_9 (by decide) (fun c_18 => ?_) (fun c_18 => ?_)
  · skip
    refine sw_aload_n (pc := 61) F dX10_comes_61 rfl 0 rfl ?_
    refine sw_get (pc := 62) (Cn := RX10) (T := TX10) (N := 5) (ci := 10) (v := .ref b0) F in10 0 rfl rfl 0 (by decide) rfl (List.mem_of_getElem? (i := 1) rfl) rfl dX10_comes_62 ?_
    refine sw_iload_n (pc := 65) F dX10_comes_65 rfl 1 rfl ?_
    refine sw_dup2 (pc := 66) F dX10_comes_66 rfl rfl ?_
    refine sw_lald (pc := 67) F 1 rfl (sw_in rfl) dX10_comes_67 ?_
    refine sw_naml (e := S 232) rfl (fun x_19 ex_19 => ?_)
    refine sw_lconst (pc := 68) (v := 1) F dX10_comes_68 rfl ?_
    refine sw_ladd (pc := 69) F dX10_comes_69 ?_
    refine sw_topl (fun x_20 ex_20 => ?_)
    obtain ⟨f_21, ef_21⟩ : ∃ y : Nat → Int64, y = vp_updL S 232 x_20 := ⟨_, rfl⟩
    refine sw_last (pc := 70) (ws' := [(h0, .inr (10, [.ref b0, .ref b1, .int np, .int th, .long hh])), (b0, .inl (G.2.1.2, 344, .inr (.inl f_21))), (b1, .inl (G.2.1.2, 1032, .inr (.inl P)))]) F 1 rfl (sw_in rfl) dX10_comes_70 (by rw [ef_21]; rfl) ?_
    refine sw_iload_n (pc := 71) F dX10_comes_71 rfl 1 rfl ?_
    refine sw_iconst (pc := 72) (v := 1) F dX10_comes_72 rfl ?_
    refine sw_iadd (pc := 73) F dX10_comes_73 ?_
    refine sw_eqt (v := .int 233) (by rfl) ?_
    refine sw_iload_n (pc := 74) F dX10_comes_74 rfl 2 rfl ?_
    refine sw_aload_n (pc := 75) F dX10_comes_75 rfl 0 rfl ?_
    refine sw_get (pc := 76) (Cn := RX10) (T := TX10) (N := 5) (ci := 10) (v := .ref b0) F in10 0 rfl rfl 0 (by decide) rfl (List.mem_of_getElem? (i := 1) rfl) rfl dX10_comes_76 ?_
    refine sw_iload_n (pc := 79) F dX10_comes_79 rfl 1 rfl ?_
    refine sw_lald (pc := 80) F 1 rfl (sw_in rfl) dX10_comes_80 ?_
    refine sw_naml (e := f_21 232) rfl (fun x_22 ex_22 => ?_)
    refine sw_l2i (pc := 81) F dX10_comes_81 rfl ?_
    refine sw_iconst (pc := 82) (v := 1) F dX10_comes_82 rfl ?_
    refine sw_isub (pc := 83) F dX10_comes_83 ?_
    refine sw_topi (fun x_23 ex_23 => ?_)
    refine sw_imul (pc := 84) F dX10_comes_84 ?_
    refine sw_topi (fun x_24 ex_24 => ?_)
    refine sw_iadd (pc := 85) F dX10_comes_85 ?_
    refine sw_topi (fun x_25 ex_25 => ?_)
    subst ex_25
    subst ex_24
    subst ex_23
    subst ex_22
    subst ef_21
    subst ex_20
    subst ex_19
    subst ex_17
    have hS := md_end_not (most := 5) (top := 16) (w := 4) (md_nfull (by decide) hc.1 (x := 5) rfl c_18) hc.1
    refine sw_iret (pc := 86) F T rfl rfl (md_comes 232 4 5 16 S) ⟨?_, rfl⟩ (by rw [← hS]) dX10_comes_86
    rw [← md_ret (top := 16) (w := 4) (by decide) (by decide) hc.2 233 4 rfl rfl, ← hS]
  · skip
    refine sw_iconst (pc := 12) (v := 1) F dX10_comes_12 rfl ?_
    refine sw_istore (pc := 13) (lv' := [(4, .int 1), (0, .ref h0), (1, .int 232), (2, .int 4), (3, .int 5)]) F T.1 dX10_comes_13 (by decide) rfl ?_
    refine sw_lvs (is := [0, 1, 2, 3, 4]) (lv' := [(4, .int 1), (0, .ref h0), (1, .int 232), (2, .int 4), (3, .int 5)]) rfl ?_
    subst ex_17
    refine sw_eq (ws' := [(h0, .inr (10, [.ref b0, .ref b1, .int np, .int th, .long hh])), (b0, .inl (G.2.1.2, 344, .inr (.inl (md_down 232 4 16 0 S)))), (b1, .inl (G.2.1.2, 1032, .inr (.inl P)))]) (by rw [← md_down_0]) rfl rfl ?_
    exact loop 16 0 rfl (md_full (by decide) hc.1 (x := 5) rfl c_18)
