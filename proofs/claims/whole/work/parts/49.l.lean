def f_X10_mix_o0_4 (hh : Int64) (a : Int64) : Int64 := ((31 * hh) + a)
set_option maxHeartbeats 4000000 in
set_option maxRecDepth 100000 in
theorem k_X10_mix (l : Launch) (G : sw_E) (h0 : Nat) (b0 : Nat) (b1 : Nat) (np : Int32) (th : Int32) (hh : Int64) (S : Nat → Int64) (P : Nat → Int64) (a : Int64)  : sw_M l G yX10_mix wsX10_mix ({ frames := 0, cells := 0, slots := 0, locals := 0 } : Room) [.ref h0, .long a] [(h0, .inr (10, [.ref b0, .ref b1, .int np, .int th, .long hh])), (b0, .inl (G.2.1.2, 344, .inr (.inl S))), (b1, .inl (G.2.1.2, 1032, .inr (.inl P)))] (sw_QV G (S := Int64) (fun (u : Int64) => u = f_X10_mix_o0_4 hh a) (fun u => [(h0, .inr (10, [.ref b0, .ref b1, .int np, .int th, .long u])), (b0, .inl (G.2.1.2, 344, .inr (.inl S))), (b1, .inl (G.2.1.2, 1032, .inr (.inl P)))])) 0 0 := by
  refine sw_start (cc := cX10_mix) (maxL := 3) (ret := none) (lv := [(0, .ref h0), (1, .long a)]) (own := RX10) (nm := "mix") (by decide +kernel) rfl rfl rfl rfl (Nat.le_of_ble_eq_true rfl) (fun C F T => ?_)
  have in10 : ∀ w ∈ u_ws RX10 TX10 5, w ∈ wsX10_mix := fun w h => List.mem_cons_of_mem _ (List.mem_append_right _ (h))
  refine sw_aload_n (pc := 0) F dX10_mix_0 rfl 0 rfl ?_
  refine sw_ldc2 (pc := 1) (v := 31) F (List.mem_of_getElem? (i := 1) rfl) dX10_mix_1 ?_
  refine sw_aload_n (pc := 4) F dX10_mix_4 rfl 0 rfl ?_
  refine sw_get (pc := 5) (Cn := RX10) (T := TX10) (N := 5) (ci := 10) (v := .long hh) F in10 0 rfl rfl 4 (by decide) rfl (List.mem_of_getElem? (i := 2) rfl) rfl dX10_mix_5 ?_
  refine sw_lmul (pc := 8) F dX10_mix_8 ?_
  refine sw_topl (fun x_1 ex_1 => ?_)
  refine sw_lload_n (pc := 9) F dX10_mix_9 rfl 1 rfl ?_
  refine sw_ladd (pc := 10) F dX10_mix_10 ?_
  refine sw_topl (fun x_2 ex_2 => ?_)
  refine sw_put (pc := 11) (Cn := RX10) (T := TX10) (N := 5) (ci := 10) (ty0 := tyX10) (ws' := [(h0, .inr (10, [.ref b0, .ref b1, .int np, .int th, .long x_2])), (b0, .inl (G.2.1.2, 344, .inr (.inl S))), (b1, .inl (G.2.1.2, 1032, .inr (.inl P)))]) F in10 tyX10_ok nmX10 0 rfl rfl 4 (by decide) rfl (List.mem_of_getElem? (i := 2) rfl) rfl rfl rfl (Nat.le_of_ble_eq_true rfl) dX10_mix_11 rfl ?_
  subst ex_2
  subst ex_1
  exact sw_vret (pc := 14) F T (((31 * hh) + a)) rfl rfl dX10_mix_14
/-- the checksum, further over n numbers from b -/
def mx (S : Nat → Int64) (h : Int64) (b : Nat) : Nat → Int64
  | 0 => h
  | n + 1 => f_X10_mix_o0_4 (mx S h b n) (S (b + n))
theorem mx_ge {a m b : Nat} (h : a + m ≤ b) (hb : b < 100000) : (nI a).toInt64 + lN m ≤ (nI b).toInt64 := by
  rw [nI_l (by omega), nI_l (by omega), lN_add, lN_le (by omega) (by omega)]
  exact h
theorem mx_lt {a m b : Nat} (h : b < a + m) (hb : a + m < 100000) : ¬ (nI a).toInt64 + lN m ≤ (nI b).toInt64 := by
  rw [nI_l (by omega), nI_l (by omega), lN_add, lN_le (by omega) (by omega)]
  omega
theorem dg_m {w : Nat} {x : Int64} (h : 0 ≤ x.toInt) : (1 : Int64) + lN w * x = lN (1 + w * x.toInt.toNat) := by
  have e := lN_of h
  generalize x.toInt.toNat = n at e
  rw [e, lN_mul, show (1 : Int64) = lN 1 from rfl, lN_add]

set_option maxHeartbeats 4000000 in
set_option maxRecDepth 100000 in
theorem k_X10_mixes (l : Launch) (G : sw_E) (h0 : Nat) (b0 : Nat) (b1 : Nat) (np : Int32) (th : Int32) (hh : Int64) (S : Nat → Int64) (P : Nat → Int64) (k0 : Int32) (Nf : Nat) (mm : Int64) (Nm : Nat) (hk0 : k0 = nI Nf) (hm : mm = lN Nm) (hN : Nf + Nm < 345) : sw_M l G yX10_mixes wsX10_mixes ({ frames := 1, cells := 0, slots := 0, locals := 22 } : Room) [.ref h0, .int k0, .long mm] [(h0, .inr (10, [.ref b0, .ref b1, .int np, .int th, .long hh])), (b0, .inl (G.2.1.2, 344, .inr (.inl S))), (b1, .inl (G.2.1.2, 1032, .inr (.inl P)))] (sw_QV G (S := Int64) (fun (u : Int64) => u = mx S hh Nf Nm) (fun u => [(h0, .inr (10, [.ref b0, .ref b1, .int np, .int th, .long u])), (b0, .inl (G.2.1.2, 344, .inr (.inl S))), (b1, .inl (G.2.1.2, 1032, .inr (.inl P)))])) 0 0 := by
  refine sw_start (cc := cX10_mixes) (maxL := 5) (ret := none) (lv := [(0, .ref h0), (1, .int k0), (2, .long mm)]) (own := RX10) (nm := "mixes") (by decide +kernel) rfl rfl rfl rfl (Nat.le_of_ble_eq_true rfl) (fun C F T => ?_)
  have in10 : ∀ w ∈ u_ws RX10 TX10 5, w ∈ wsX10_mixes := fun w h => List.mem_cons_of_mem _ (List.mem_append_right _ (h))
  have loop : ∀ (m n : Nat), n + m = Nm → SW G C 0 0 [(h0, .inr (10, [.ref b0, .ref b1, .int np, .int th, .long (mx S hh Nf n)])), (b0, .inl (G.2.1.2, 344, .inr (.inl S))), (b1, .inl (G.2.1.2, 1032, .inr (.inl P)))] [(4, .int (nI (Nf + n))), (0, .ref h0), (1, .int k0), (2, .long mm)] 3 [] := by
    intro m
    induction m with
    | zero =>
      intro n hn
      refine sw_iload (pc := 3) F dX10_mixes_3 0 rfl ?_
      refine sw_i2l (pc := 5) F dX10_mixes_5 rfl ?_
      refine sw_iload_n (pc := 6) F dX10_mixes_6 rfl 2 rfl ?_
      refine sw_i2l (pc := 7) F dX10_mixes_7 rfl ?_
      refine sw_lload_n (pc := 8) F dX10_mixes_8 rfl 3 rfl ?_
      refine sw_ladd (pc := 9) F dX10_mixes_9 ?_
      refine sw_topl (fun x_1 ex_1 => ?_)
      refine sw_lcmp_ge (pc := 10) (tgt := 31) F dX10_mixes_10 dX10_mixes_11 (by decide) (fun _ => ?_) (fun c => absurd (by subst_vars; exact mx_ge (by omega) (by omega)) c)
      subst ex_1
      obtain rfl : n = Nm := by omega
      exact sw_vret (pc := 31) F T (mx S hh Nf n) rfl rfl dX10_mixes_31
    | succ m ih =>
      intro n hn
      obtain ⟨k, hk⟩ : ∃ z, z = nI (Nf + n) := ⟨_, rfl⟩
      rw [← hk]
      refine sw_iload (pc := 3) F dX10_mixes_3 0 rfl ?_
      refine sw_i2l (pc := 5) F dX10_mixes_5 rfl ?_
      refine sw_iload_n (pc := 6) F dX10_mixes_6 rfl 2 rfl ?_
      refine sw_i2l (pc := 7) F dX10_mixes_7 rfl ?_
      refine sw_lload_n (pc := 8) F dX10_mixes_8 rfl 3 rfl ?_
      refine sw_ladd (pc := 9) F dX10_mixes_9 ?_
      refine sw_topl (fun x_2 ex_2 => ?_)
      refine sw_lcmp_ge (pc := 10) (tgt := 31) F dX10_mixes_10 dX10_mixes_11 (by decide) (fun c => absurd c (by subst_vars; exact mx_lt (by omega) (by omega))) (fun _ => ?_)
      refine sw_aload_n (pc := 14) F dX10_mixes_14 rfl 1 rfl ?_
      refine sw_aload_n (pc := 15) F dX10_mixes_15 rfl 1 rfl ?_
      refine sw_get (pc := 16) (Cn := RX10) (T := TX10) (N := 5) (ci := 10) (v := .ref b0) F in10 0 rfl rfl 0 (by decide) rfl (List.mem_of_getElem? (i := 1) rfl) rfl dX10_mixes_16 ?_
      refine sw_iload (pc := 19) F dX10_mixes_19 0 rfl ?_
      refine sw_lald (pc := 21) F 1 rfl (by rw [hk]; exact vp_in_nI (by omega) (by decide)) dX10_mixes_21 ?_
      refine sw_naml (e := S (Nf + n)) (by rw [(show k.toNatClampNeg = Nf + n by rw [hk]; exact nI_clamp (by omega))]) (fun x_3 ex_3 => ?_)
      refine sw_callv (pc := 22) (wr := []) (k' := 0) (n' := 0) F (sw_runV (R := ({ frames := 1, cells := 0, slots := 0, locals := 22 } : Room)) (q0 := 0) (na := 1) F T.2.1 T.2.2.1 (k_X10_mix l G h0 b0 b1 np th (mx S hh Nf n) S P x_3) [0, 1, 2] rfl (by decide) gX10_mixes_X10_mix rfl rfl rfl (by decide +kernel) ⟨Nat.le_of_ble_eq_true rfl, Nat.le_of_ble_eq_true rfl⟩ rfl rfl rfl rfl rfl (Nat.le_of_ble_eq_true rfl) dX10_mixes_22 (Nat.le_of_ble_eq_true rfl) (Nat.le_of_ble_eq_true rfl)) [0, 1, 2] [] rfl rfl (by decide) (by decide) rfl rfl (fun u_5 h_6 => ?_)
      obtain ⟨o_7, eu_5⟩ : ∃ z, z = u_5 := ⟨_, rfl⟩; subst eu_5
      have e_8 : o_7 = f_X10_mix_o0_4 (mx S hh Nf n) x_3 := h_6
      refine sw_eq (ws' := [(h0, .inr (10, [.ref b0, .ref b1, .int np, .int th, .long o_7])), (b0, .inl (G.2.1.2, 344, .inr (.inl S))), (b1, .inl (G.2.1.2, 1032, .inr (.inl P)))]) (lv' := [(4, .int k), (0, .ref h0), (1, .int k0), (2, .long mm)]) (st' := []) rfl rfl rfl ?_
      obtain ⟨x_9, ex_9⟩ : ∃ y : Int32, y = k + 1 := ⟨_, rfl⟩
      refine sw_iinc (pc := 25) (v := x_9) (lv' := [(4, .int x_9), (0, .ref h0), (1, .int k0), (2, .long mm)]) F T.1 dX10_mixes_25 (q := 0) rfl ex_9.symm (by decide) rfl ?_
      refine sw_goto (pc := 28) (tgt := 3) F dX10_mixes_28 (by decide) ?_
      refine sw_lvs (is := [0, 1, 2, 3]) (lv' := [(4, .int x_9), (0, .ref h0), (1, .int k0), (2, .long mm)]) rfl ?_
      subst ex_9
      subst e_8
      subst ex_3
      subst ex_2
      refine sw_eq (ws' := [(h0, .inr (10, [.ref b0, .ref b1, .int np, .int th, .long (mx S hh Nf (n + 1))])), (b0, .inl (G.2.1.2, 344, .inr (.inl S))), (b1, .inl (G.2.1.2, 1032, .inr (.inl P)))]) (lv' := [(4, .int (nI (Nf + (n + 1)))), (0, .ref h0), (1, .int k0), (2, .long mm)]) rfl (by rw [hk, nI_1]; rfl) rfl ?_
      exact ih (n + 1) (by omega)
  refine sw_iload_n (pc := 0) F dX10_mixes_0 rfl 1 rfl ?_
  refine sw_istore (pc := 1) (lv' := [(4, .int k0), (0, .ref h0), (1, .int k0), (2, .long mm)]) F T.1 dX10_mixes_1 (by decide) rfl ?_
  refine sw_lvs (is := [0, 1, 2, 3]) (lv' := [(4, .int k0), (0, .ref h0), (1, .int k0), (2, .long mm)]) rfl ?_
  refine sw_eq (ws' := [(h0, .inr (10, [.ref b0, .ref b1, .int np, .int th, .long (mx S hh Nf 0)])), (b0, .inl (G.2.1.2, 344, .inr (.inl S))), (b1, .inl (G.2.1.2, 1032, .inr (.inl P)))]) (lv' := [(4, .int (nI (Nf + 0))), (0, .ref h0), (1, .int k0), (2, .long mm)]) rfl (by rw [hk0]; rfl) rfl ?_
  exact loop Nm 0 (by omega)
def f_X10_digest_o0_4 (np : Int32) (S : Nat → Int64) : Int64 := (mx S (mx S (mx S (f_X10_mix_o0_4 (f_X10_mix_o0_4 (f_X10_mix_o0_4 (f_X10_mix_o0_4 (f_X10_mix_o0_4 (mx S (f_X10_mix_o0_4 (mx S (mx S (f_X10_mix_o0_4 (f_X10_mix_o0_4 (f_X10_mix_o0_4 (f_X10_mix_o0_4 (f_X10_mix_o0_4 (f_X10_mix_o0_4 (f_X10_mix_o0_4 (f_X10_mix_o0_4 (f_X10_mix_o0_4 (f_X10_mix_o0_4 (f_X10_mix_o0_4 (f_X10_mix_o0_4 (f_X10_mix_o0_4 (f_X10_mix_o0_4 (f_X10_mix_o0_4 (f_X10_mix_o0_4 (mx S (f_X10_mix_o0_4 19735 np.toInt64) 0 6) (S 6)) (S 10)) (S 14)) (S 18)) (S 7)) (S 11)) (S 15)) (S 19)) (S 8)) (S 12)) (S 16)) (S 20)) (S 9)) (S 13)) (S 17)) (S 21)) 26 11) 37 3) (f_X10_densityNow_r S)) 40 2) (f_X10_totalOf_0_r S)) (f_X10_totalOf_1_r S)) (f_X10_totalOf_2_r S)) (f_X10_totalOf_3_r S)) (S 49)) 63 ((1 + 7 * (S 63).toInt.toNat))) 232 ((1 + 4 * (S 232).toInt.toNat))) 253 ((1 + 3 * (S 253).toInt.toNat)))
def f_X10_digest_r (np : Int32) (S : Nat → Int64) : Int64 := (mx S (mx S (mx S (f_X10_mix_o0_4 (f_X10_mix_o0_4 (f_X10_mix_o0_4 (f_X10_mix_o0_4 (f_X10_mix_o0_4 (mx S (f_X10_mix_o0_4 (mx S (mx S (f_X10_mix_o0_4 (f_X10_mix_o0_4 (f_X10_mix_o0_4 (f_X10_mix_o0_4 (f_X10_mix_o0_4 (f_X10_mix_o0_4 (f_X10_mix_o0_4 (f_X10_mix_o0_4 (f_X10_mix_o0_4 (f_X10_mix_o0_4 (f_X10_mix_o0_4 (f_X10_mix_o0_4 (f_X10_mix_o0_4 (f_X10_mix_o0_4 (f_X10_mix_o0_4 (f_X10_mix_o0_4 (mx S (f_X10_mix_o0_4 19735 np.toInt64) 0 6) (S 6)) (S 10)) (S 14)) (S 18)) (S 7)) (S 11)) (S 15)) (S 19)) (S 8)) (S 12)) (S 16)) (S 20)) (S 9)) (S 13)) (S 17)) (S 21)) 26 11) 37 3) (f_X10_densityNow_r S)) 40 2) (f_X10_totalOf_0_r S)) (f_X10_totalOf_1_r S)) (f_X10_totalOf_2_r S)) (f_X10_totalOf_3_r S)) (S 49)) 63 ((1 + 7 * (S 63).toInt.toNat))) 232 ((1 + 4 * (S 232).toInt.toNat))) 253 ((1 + 3 * (S 253).toInt.toNat)))
set_option maxHeartbeats 4000000 in
set_option maxRecDepth 100000 in
theorem k_X10_digest (l : Launch) (G : sw_E) (h0 : Nat) (b0 : Nat) (b1 : Nat) (np : Int32) (th : Int32) (hh : Int64) (S : Nat → Int64) (P : Nat → Int64) (hbd : -1000000 ≤ (S 21).toInt ∧ (S 21).toInt ≤ 1000000) (hg : 0 ≤ (S 63).toInt ∧ (S 63).toInt ≤ 24) (hk : 0 ≤ (S 232).toInt ∧ (S 232).toInt ≤ 5) (he : 0 ≤ (S 253).toInt ∧ (S 253).toInt ≤ 30) : sw_M l G yX10_digest wsX10_digest ({ frames := 3, cells := 0, slots := 0, locals := 71 } : Room) [.ref h0] [(h0, .inr (10, [.ref b0, .ref b1, .int np, .int th, .long hh])), (b0, .inl (G.2.1.2, 344, .inr (.inl S))), (b1, .inl (G.2.1.2, 1032, .inr (.inl P)))] (sw_QL G (S := Int64) (fun (r : Int64) (u : Int64) => r = f_X10_digest_r np S ∧ u = f_X10_digest_o0_4 np S) (fun u => [(h0, .inr (10, [.ref b0, .ref b1, .int np, .int 0, .long u])), (b0, .inl (G.2.1.2, 344, .inr (.inl S))), (b1, .inl (G.2.1.2, 1032, .inr (.inl P)))])) 0 0 := by
  refine sw_start (cc := cX10_digest) (maxL := 2) (ret := some .long) (lv := [(0, .ref h0)]) (own := RX10) (nm := "digest") (by decide +kernel) rfl rfl rfl rfl (Nat.le_of_ble_eq_true rfl) (fun C F T => ?_)
  have in10 : ∀ w ∈ u_ws RX10 TX10 5, w ∈ wsX10_digest := fun w h => List.mem_cons_of_mem _ (List.mem_append_right _ (h))
  refine sw_aload_n (pc := 0) F dX10_digest_0 rfl 0 rfl ?_
  refine sw_iconst (pc := 1) (v := 0) F dX10_digest_1 rfl ?_
  refine sw_put (pc := 2) (Cn := RX10) (T := TX10) (N := 5) (ci := 10) (ty0 := tyX10) (ws' := [(h0, .inr (10, [.ref b0, .ref b1, .int np, .int 0, .long hh])), (b0, .inl (G.2.1.2, 344, .inr (.inl S))), (b1, .inl (G.2.1.2, 1032, .inr (.inl P)))]) F in10 tyX10_ok nmX10 0 rfl rfl 3 (by decide) rfl (List.mem_of_getElem? (i := 1) rfl) rfl rfl rfl (Nat.le_of_ble_eq_true rfl) dX10_digest_2 rfl ?_
  refine sw_aload_n (pc := 5) F dX10_digest_5 rfl 0 rfl ?_
  refine sw_ldc2 (pc := 6) (v := 19735) F (List.mem_of_getElem? (i := 2) rfl) dX10_digest_6 ?_
  refine sw_put (pc := 9) (Cn := RX10) (T := TX10) (N := 5) (ci := 10) (ty0 := tyX10) (ws' := [(h0, .inr (10, [.ref b0, .ref b1, .int np, .int 0, .long 19735])), (b0, .inl (G.2.1.2, 344, .inr (.inl S))), (b1, .inl (G.2.1.2, 1032, .inr (.inl P)))]) F in10 tyX10_ok nmX10 0 rfl rfl 4 (by decide) rfl (List.mem_of_getElem? (i := 3) rfl) rfl rfl rfl (Nat.le_of_ble_eq_true rfl) dX10_digest_9 rfl ?_
  refine sw_aload_n (pc := 12) F dX10_digest_12 rfl 0 rfl ?_
  refine sw_aload_n (pc := 13) F dX10_digest_13 rfl 0 rfl ?_
  refine sw_get (pc := 14) (Cn := RX10) (T := TX10) (N := 5) (ci := 10) (v := .int np) F in10 0 rfl rfl 2 (by decide) rfl (List.mem_of_getElem? (i := 4) rfl) rfl dX10_digest_14 ?_
  refine sw_i2l (pc := 17) F dX10_digest_17 rfl ?_
  refine sw_callv (pc := 18) (wr := []) (k' := 0) (n' := 0) F (sw_runV (R := ({ frames := 3, cells := 0, slots := 0, locals := 71 } : Room)) (q0 := 0) (na := 1) F T.2.1 T.2.2.1 (k_X10_mix l G h0 b0 b1 np 0 19735 S P np.toInt64) [0, 1, 2] rfl (by decide) gX10_digest_X10_mix rfl rfl rfl (by decide +kernel) ⟨Nat.le_of_ble_eq_true rfl, Nat.le_of_ble_eq_true rfl⟩ rfl rfl rfl rfl rfl (Nat.le_of_ble_eq_true rfl) dX10_digest_18 (Nat.le_of_ble_eq_true rfl) (Nat.le_of_ble_eq_true rfl)) [0, 1, 2] [] rfl rfl (by decide) (by decide) rfl rfl (fun u_2 h_3 => ?_)
  obtain ⟨o_4, eu_2⟩ : ∃ z, z = u_2 := ⟨_, rfl⟩; subst eu_2
  have e_5 : o_4 = f_X10_mix_o0_4 19735 np.toInt64 := h_3
  refine sw_eq (ws' := [(h0, .inr (10, [.ref b0, .ref b1, .int np, .int 0, .long o_4])), (b0, .inl (G.2.1.2, 344, .inr (.inl S))), (b1, .inl (G.2.1.2, 1032, .inr (.inl P)))]) (lv' := [(0, .ref h0)]) (st' := []) rfl rfl rfl ?_
  refine sw_aload_n (pc := 21) F dX10_digest_21 rfl 0 rfl ?_
  refine sw_iconst (pc := 22) (v := 0) F dX10_digest_22 rfl ?_
  refine sw_ldc2 (pc := 23) (v := 6) F (List.mem_of_getElem? (i := 5) rfl) dX10_digest_23 ?_
  refine sw_callv (pc := 26) (wr := []) (k' := 0) (n' := 0) F (sw_runV (R := ({ frames := 3, cells := 0, slots := 0, locals := 71 } : Room)) (q0 := 0) (na := 2) F T.2.1 T.2.2.1 (k_X10_mixes l G h0 b0 b1 np 0 o_4 S P 0 0 6 6 rfl rfl (by decide)) [0, 1, 2] rfl (by decide) gX10_digest_X10_mixes rfl rfl rfl (by decide +kernel) ⟨Nat.le_of_ble_eq_true rfl, Nat.le_of_ble_eq_true rfl⟩ rfl rfl rfl rfl rfl (Nat.le_of_ble_eq_true rfl) dX10_digest_26 (Nat.le_of_ble_eq_true rfl) (Nat.le_of_ble_eq_true rfl)) [0, 1, 2] [] rfl rfl (by decide) (by decide) rfl rfl (fun u_7 h_8 => ?_)
  obtain ⟨o_9, eu_7⟩ : ∃ z, z = u_7 := ⟨_, rfl⟩; subst eu_7
  have e_10 : o_9 = mx S o_4 0 6 := h_8
  refine sw_eq (ws' := [(h0, .inr (10, [.ref b0, .ref b1, .int np, .int 0, .long o_9])), (b0, .inl (G.2.1.2, 344, .inr (.inl S))), (b1, .inl (G.2.1.2, 1032, .inr (.inl P)))]) (lv' := [(0, .ref h0)]) (st' := []) rfl rfl rfl ?_
  refine sw_iconst (pc := 29) (v := 0) F dX10_digest_29 rfl ?_
  refine sw_istore_n (pc := 30) (lv' := [(1, .int 0), (0, .ref h0)]) F T.1 dX10_digest_30 rfl (by decide) rfl ?_
  refine sw_iload_n (pc := 31) F dX10_digest_31 rfl 0 rfl ?_
  refine sw_iconst (pc := 32) (v := 4) F dX10_digest_32 rfl ?_
  refine sw_icmp_ge (pc := 33) (tgt := 94) F dX10_digest_33 (by decide) (fun c => absurd c (by decide)) (fun _ => ?_)
  refine sw_aload_n (pc := 36) F dX10_digest_36 rfl 1 rfl ?_
  refine sw_aload_n (pc := 37) F dX10_digest_37 rfl 1 rfl ?_
  refine sw_get (pc := 38) (Cn := RX10) (T := TX10) (N := 5) (ci := 10) (v := .ref b0) F in10 0 rfl rfl 0 (by decide) rfl (List.mem_of_getElem? (i := 6) rfl) rfl dX10_digest_38 ?_
  refine sw_bipush (pc := 41) (v := 6) F dX10_digest_41 rfl ?_
  refine sw_iload_n (pc := 43) F dX10_digest_43 rfl 0 rfl ?_
  refine sw_iadd (pc := 44) F dX10_digest_44 ?_
  refine sw_eqt (v := .int 6) (by rfl) ?_
  refine sw_lald (pc := 45) F 1 rfl (sw_in rfl) dX10_digest_45 ?_
  refine sw_naml (e := S 6) rfl (fun x_11 ex_11 => ?_)
  refine sw_callv (pc := 46) (wr := []) (k' := 0) (n' := 0) F (sw_runV (R := ({ frames := 3, cells := 0, slots := 0, locals := 71 } : Room)) (q0 := 0) (na := 1) F T.2.1 T.2.2.1 (k_X10_mix l G h0 b0 b1 np 0 o_9 S P x_11) [0, 1, 2] rfl (by decide) gX10_digest_X10_mix rfl rfl rfl (by decide +kernel) ⟨Nat.le_of_ble_eq_true rfl, Nat.le_of_ble_eq_true rfl⟩ rfl rfl rfl rfl rfl (Nat.le_of_ble_eq_true rfl) dX10_digest_46 (Nat.le_of_ble_eq_true rfl) (Nat.le_of_ble_eq_true rfl)) [0, 1, 2] [] rfl rfl (by decide) (by decide) rfl rfl (fun u_13 h_14 => ?_)
  obtain ⟨o_15, eu_13⟩ : ∃ z, z = u_13 := ⟨_, rfl⟩; subst eu_13
  have e_16 : o_15 = f_X10_mix_o0_4 o_9 x_11 := h_14
  refine sw_eq (ws' := [(h0, .inr (10, [.ref b0, .ref b1, .int np, .int 0, .long o_15])), (b0, .inl (G.2.1.2, 344, .inr (.inl S))), (b1, .inl (G.2.1.2, 1032, .inr (.inl P)))]) (lv' := [(1, .int 0), (0, .ref h0)]) (st' := []) rfl rfl rfl ?_
  refine sw_aload_n (pc := 49) F dX10_digest_49 rfl 1 rfl ?_
  refine sw_aload_n (pc := 50) F dX10_digest_50 rfl 1 rfl ?_
  refine sw_get (pc := 51) (Cn := RX10) (T := TX10) (N := 5) (ci := 10) (v := .ref b0) F in10 0 rfl rfl 0 (by decide) rfl (List.mem_of_getElem? (i := 6) rfl) rfl dX10_digest_51 ?_
  refine sw_bipush (pc := 54) (v := 10) F dX10_digest_54 rfl ?_
  refine sw_iload_n (pc := 56) F dX10_digest_56 rfl 0 rfl ?_
  refine sw_iadd (pc := 57) F dX10_digest_57 ?_
  refine sw_eqt (v := .int 10) (by rfl) ?_
  refine sw_lald (pc := 58) F 1 rfl (sw_in rfl) dX10_digest_58 ?_
  refine sw_naml (e := S 10) rfl (fun x_17 ex_17 => ?_)
  refine sw_callv (pc := 59) (wr := []) (k' := 0) (n' := 0) F (sw_runV (R := ({ frames := 3, cells := 0, slots := 0, locals := 71 } : Room)) (q0 := 0) (na := 1) F T.2.1 T.2.2.1 (k_X10_mix l G h0 b0 b1 np 0 o_15 S P x_17) [0, 1, 2] rfl (by decide) gX10_digest_X10_mix rfl rfl rfl (by decide +kernel) ⟨Nat.le_of_ble_eq_true rfl, Nat.le_of_ble_eq_true rfl⟩ rfl rfl rfl rfl rfl (Nat.le_of_ble_eq_true rfl) dX10_digest_59 (Nat.le_of_ble_eq_true rfl) (Nat.le_of_ble_eq_true rfl)) [0, 1, 2] [] rfl rfl (by decide) (by decide) rfl rfl (fun u_19 h_20 => ?_)
  obtain ⟨o_21, eu_19⟩ : ∃ z, z = u_19 := ⟨_, rfl⟩; subst eu_19
  have e_22 : o_21 = f_X10_mix_o0_4 o_15 x_17 := h_20
  refine sw_eq (ws' := [(h0, .inr (10, [.ref b0, .ref b1, .int np, .int 0, .long o_21])), (b0, .inl (G.2.1.2, 344, .inr (.inl S))), (b1, .inl (G.2.1.2, 1032, .inr (.inl P)))]) (lv' := [(1, .int 0), (0, .ref h0)]) (st' := []) rfl rfl rfl ?_
  refine sw_aload_n (pc := 62) F dX10_digest_62 rfl 1 rfl ?_
  refine sw_aload_n (pc := 63) F dX10_digest_63 rfl 1 rfl ?_
  refine sw_get (pc := 64) (Cn := RX10) (T := TX10) (N := 5) (ci := 10) (v := .ref b0) F in10 0 rfl rfl 0 (by decide) rfl (List.mem_of_getElem? (i := 6) rfl) rfl dX10_digest_64 ?_
  refine sw_bipush (pc := 67) (v := 14) F dX10_digest_67 rfl ?_
  refine sw_iload_n (pc := 69) F dX10_digest_69 rfl 0 rfl ?_
  refine sw_iadd (pc := 70) F dX10_digest_70 ?_
  refine sw_eqt (v := .int 14) (by rfl) ?_
  refine sw_lald (pc := 71) F 1 rfl (sw_in rfl) dX10_digest_71 ?_
  refine sw_naml (e := S 14) rfl (fun x_23 ex_23 => ?_)
  refine sw_callv (pc := 72) (wr := []) (k' := 0) (n' := 0) F (sw_runV (R := ({ frames := 3, cells := 0, slots := 0, locals := 71 } : Room)) (q0 := 0) (na := 1) F T.2.1 T.2.2.1 (k_X10_mix l G h0 b0 b1 np 0 o_21 S P x_23) [0, 1, 2] rfl (by decide) gX10_digest_X10_mix rfl rfl rfl (by decide +kernel) ⟨Nat.le_of_ble_eq_true rfl, Nat.le_of_ble_eq_true rfl⟩ rfl rfl rfl rfl rfl (Nat.le_of_ble_eq_true rfl) dX10_digest_72 (Nat.le_of_ble_eq_true rfl) (Nat.le_of_ble_eq_true rfl)) [0, 1, 2] [] rfl rfl (by decide) (by decide) rfl rfl (fun u_25 h_26 => ?_)
  obtain ⟨o_27, eu_25⟩ : ∃ z, z = u_25 := ⟨_, rfl⟩; subst eu_25
  have e_28 : o_27 = f_X10_mix_o0_4 o_21 x_23 := h_26
  refine sw_eq (ws' := [(h0, .inr (10, [.ref b0, .ref b1, .int np, .int 0, .long o_27])), (b0, .inl (G.2.1.2, 344, .inr (.inl S))), (b1, .inl (G.2.1.2, 1032, .inr (.inl P)))]) (lv' := [(1, .int 0), (0, .ref h0)]) (st' := []) rfl rfl rfl ?_
  refine sw_aload_n (pc := 75) F dX10_digest_75 rfl 1 rfl ?_
  refine sw_aload_n (pc := 76) F dX10_digest_76 rfl 1 rfl ?_
  refine sw_get (pc := 77) (Cn := RX10) (T := TX10) (N := 5) (ci := 10) (v := .ref b0) F in10 0 rfl rfl 0 (by decide) rfl (List.mem_of_getElem? (i := 6) rfl) rfl dX10_digest_77 ?_
  refine sw_bipush (pc := 80) (v := 18) F dX10_digest_80 rfl ?_
  refine sw_iload_n (pc := 82) F dX10_digest_82 rfl 0 rfl ?_
  refine sw_iadd (pc := 83) F dX10_digest_83 ?_
  refine sw_eqt (v := .int 18) (by rfl) ?_
  refine sw_lald (pc := 84) F 1 rfl (sw_in rfl) dX10_digest_84 ?_
  refine sw_naml (e := S 18) rfl (fun x_29 ex_29 => ?_)
  refine sw_callv (pc := 85) (wr := []) (k' := 0) (n' := 0) F (sw_runV (R := ({ frames := 3, cells := 0, slots := 0, locals := 71 } : Room)) (q0 := 0) (na := 1) F T.2.1 T.2.2.1 (k_X10_mix l G h0 b0 b1 np 0 o_27 S P x_29) [0, 1, 2] rfl (by decide) gX10_digest_X10_mix rfl rfl rfl (by decide +kernel) ⟨Nat.le_of_ble_eq_true rfl, Nat.le_of_ble_eq_true rfl⟩ rfl rfl rfl rfl rfl (Nat.le_of_ble_eq_true rfl) dX10_digest_85 (Nat.le_of_ble_eq_true rfl) (Nat.le_of_ble_eq_true rfl)) [0, 1, 2] [] rfl rfl (by decide) (by decide) rfl rfl (fun u_31 h_32 => ?_)
  obtain ⟨o_33, eu_31⟩ : ∃ z, z = u_31 := ⟨_, rfl⟩; subst eu_31
  have e_34 : o_33 = f_X10_mix_o0_4 o_27 x_29 := h_32
  refine sw_eq (ws' := [(h0, .inr (10, [.ref b0, .ref b1, .int np, .int 0, .long o_33])), (b0, .inl (G.2.1.2, 344, .inr (.inl S))), (b1, .inl (G.2.1.2, 1032, .inr (.inl P)))]) (lv' := [(1, .int 0), (0, .ref h0)]) (st' := []) rfl rfl rfl ?_
  refine sw_iinc (pc := 88) (v := 1) (lv' := [(1, .int 1), (0, .ref h0)]) F T.1 dX10_digest_88 (q := 0) rfl rfl (by decide) rfl ?_
  refine sw_goto (pc := 91) (tgt := 31) F dX10_digest_91 (by decide) ?_
  refine sw_iload_n (pc := 31) F dX10_digest_31 rfl 0 rfl ?_
  refine sw_iconst (pc := 32) (v := 4) F dX10_digest_32 rfl ?_
  refine sw_icmp_ge (pc := 33) (tgt := 94) F dX10_digest_33 (by decide) (fun c => absurd c (by decide)) (fun _ => ?_)
  refine sw_aload_n (pc := 36) F dX10_digest_36 rfl 1 rfl ?_
  refine sw_aload_n (pc := 37) F dX10_digest_37 rfl 1 rfl ?_
  refine sw_get (pc := 38) (Cn := RX10) (T := TX10) (N := 5) (ci := 10) (v := .ref b0) F in10 0 rfl rfl 0 (by decide) rfl (List.mem_of_getElem? (i := 6) rfl) rfl dX10_digest_38 ?_
  refine sw_bipush (pc := 41) (v := 6) F dX10_digest_41 rfl ?_
  refine sw_iload_n (pc := 43) F dX10_digest_43 rfl 0 rfl ?_
  refine sw_iadd (pc := 44) F dX10_digest_44 ?_
  refine sw_eqt (v := .int 7) (by rfl) ?_
  refine sw_lald (pc := 45) F 1 rfl (sw_in rfl) dX10_digest_45 ?_
  refine sw_naml (e := S 7) rfl (fun x_35 ex_35 => ?_)
  refine sw_callv (pc := 46) (wr := []) (k' := 0) (n' := 0) F (sw_runV (R := ({ frames := 3, cells := 0, slots := 0, locals := 71 } : Room)) (q0 := 0) (na := 1) F T.2.1 T.2.2.1 (k_X10_mix l G h0 b0 b1 np 0 o_33 S P x_35) [0, 1, 2] rfl (by decide) gX10_digest_X10_mix rfl rfl rfl (by decide +kernel) ⟨Nat.le_of_ble_eq_true rfl, Nat.le_of_ble_eq_true rfl⟩ rfl rfl rfl rfl rfl (Nat.le_of_ble_eq_true rfl) dX10_digest_46 (Nat.le_of_ble_eq_true rfl) (Nat.le_of_ble_eq_true rfl)) [0, 1, 2] [] rfl rfl (by decide) (by decide) rfl rfl (fun u_37 h_38 => ?_)
  obtain ⟨o_39, eu_37⟩ : ∃ z, z = u_37 := ⟨_, rfl⟩; subst eu_37
  have e_40 : o_39 = f_X10_mix_o0_4 o_33 x_35 := h_38
  refine sw_eq (ws' := [(h0, .inr (10, [.ref b0, .ref b1, .int np, .int 0, .long o_39])), (b0, .inl (G.2.1.2, 344, .inr (.inl S))), (b1, .inl (G.2.1.2, 1032, .inr (.inl P)))]) (lv' := [(1, .int 1), (0, .ref h0)]) (st' := []) rfl rfl rfl ?_
  refine sw_aload_n (pc := 49) F dX10_digest_49 rfl 1 rfl ?_
  refine sw_aload_n (pc := 50) F dX10_digest_50 rfl 1 rfl ?_
  refine sw_get (pc := 51) (Cn := RX10) (T := TX10) (N := 5) (ci := 10) (v := .ref b0) F in10 0 rfl rfl 0 (by decide) rfl (List.mem_of_getElem? (i := 6) rfl) rfl dX10_digest_51 ?_
  refine sw_bipush (pc := 54) (v := 10) F dX10_digest_54 rfl ?_
  refine sw_iload_n (pc := 56) F dX10_digest_56 rfl 0 rfl ?_
  refine sw_iadd (pc := 57) F dX10_digest_57 ?_
  refine sw_eqt (v := .int 11) (by rfl) ?_
  refine sw_lald (pc := 58) F 1 rfl (sw_in rfl) dX10_digest_58 ?_
  refine sw_naml (e := S 11) rfl (fun x_41 ex_41 => ?_)
  refine sw_callv (pc := 59) (wr := []) (k' := 0) (n' := 0) F (sw_runV (R := ({ frames := 3, cells := 0, slots := 0, locals := 71 } : Room)) (q0 := 0) (na := 1) F T.2.1 T.2.2.1 (k_X10_mix l G h0 b0 b1 np 0 o_39 S P x_41) [0, 1, 2] rfl (by decide) gX10_digest_X10_mix rfl rfl rfl (by decide +kernel) ⟨Nat.le_of_ble_eq_true rfl, Nat.le_of_ble_eq_true rfl⟩ rfl rfl rfl rfl rfl (Nat.le_of_ble_eq_true rfl) dX10_digest_59 (Nat.le_of_ble_eq_true rfl) (Nat.le_of_ble_eq_true rfl)) [0, 1, 2] [] rfl rfl (by decide) (by decide) rfl rfl (fun u_43 h_44 => ?_)
  obtain ⟨o_45, eu_43⟩ : ∃ z, z = u_43 := ⟨_, rfl⟩; subst eu_43
  have e_46 : o_45 = f_X10_mix_o0_4 o_39 x_41 := h_44
  refine sw_eq (ws' := [(h0, .inr (10, [.ref b0, .ref b1, .int np, .int 0, .long o_45])), (b0, .inl (G.2.1.2, 344, .inr (.inl S))), (b1, .inl (G.2.1.2, 1032, .inr (.inl P)))]) (lv' := [(1, .int 1), (0, .ref h0)]) (st' := []) rfl rfl rfl ?_
  refine sw_aload_n (pc := 62) F dX10_digest_62 rfl 1 rfl ?_
  refine sw_aload_n (pc := 63) F dX10_digest_63 rfl 1 rfl ?_
  refine sw_get (pc := 64) (Cn := RX10) (T := TX10) (N := 5) (ci := 10) (v := .ref b0) F in10 0 rfl rfl 0 (by decide) rfl (List.mem_of_getElem? (i := 6) rfl) rfl dX10_digest_64 ?_
  refine sw_bipush (pc := 67) (v := 14) F dX10_digest_67 rfl ?_
  refine sw_iload_n (pc := 69) F dX10_digest_69 rfl 0 rfl ?_
  refine sw_iadd (pc := 70) F dX10_digest_70 ?_
  refine sw_eqt (v := .int 15) (by rfl) ?_
  refine sw_lald (pc := 71) F 1 rfl (sw_in rfl) dX10_digest_71 ?_
  refine sw_naml (e := S 15) rfl (fun x_47 ex_47 => ?_)
  refine sw_callv (pc := 72) (wr := []) (k' := 0) (n' := 0) F (sw_runV (R := ({ frames := 3, cells := 0, slots := 0, locals := 71 } : Room)) (q0 := 0) (na := 1) F T.2.1 T.2.2.1 (k_X10_mix l G h0 b0 b1 np 0 o_45 S P x_47) [0, 1, 2] rfl (by decide) gX10_digest_X10_mix rfl rfl rfl (by decide +kernel) ⟨Nat.le_of_ble_eq_true rfl, Nat.le_of_ble_eq_true rfl⟩ rfl rfl rfl rfl rfl (Nat.le_of_ble_eq_true rfl) dX10_digest_72 (Nat.le_of_ble_eq_true rfl) (Nat.le_of_ble_eq_true rfl)) [0, 1, 2] [] rfl rfl (by decide) (by decide) rfl rfl (fun u_49 h_50 => ?_)
  obtain ⟨o_51, eu_49⟩ : ∃ z, z = u_49 := ⟨_, rfl⟩; subst eu_49
  have e_52 : o_51 = f_X10_mix_o0_4 o_45 x_47 := h_50
  refine sw_eq (ws' := [(h0, .inr (10, [.ref b0, .ref b1, .int np, .int 0, .long o_51])), (b0, .inl (G.2.1.2, 344, .inr (.inl S))), (b1, .inl (G.2.1.2, 1032, .inr (.inl P)))]) (lv' := [(1, .int 1), (0, .ref h0)]) (st' := []) rfl rfl rfl ?_
  refine sw_aload_n (pc := 75) F dX10_digest_75 rfl 1 rfl ?_
  refine sw_aload_n (pc := 76) F dX10_digest_76 rfl 1 rfl ?_
  refine sw_get (pc := 77) (Cn := RX10) (T := TX10) (N := 5) (ci := 10) (v := .ref b0) F in10 0 rfl rfl 0 (by decide) rfl (List.mem_of_getElem? (i := 6) rfl) rfl dX10_digest_77 ?_
  refine sw_bipush (pc := 80) (v := 18) F dX10_digest_80 rfl ?_
  refine sw_iload_n (pc := 82) F dX10_digest_82 rfl 0 rfl ?_
  refine sw_iadd (pc := 83) F dX10_digest_83 ?_
  refine sw_eqt (v := .int 19) (by rfl) ?_
  refine sw_lald (pc := 84) F 1 rfl (sw_in rfl) dX10_digest_84 ?_
  refine sw_naml (e := S 19) rfl (fun x_53 ex_53 => ?_)
  refine sw_callv (pc := 85) (wr := []) (k' := 0) (n' := 0) F (sw_runV (R := ({ frames := 3, cells := 0, slots := 0, locals := 71 } : Room)) (q0 := 0) (na := 1) F T.2.1 T.2.2.1 (k_X10_mix l G h0 b0 b1 np 0 o_51 S P x_53) [0, 1, 2] rfl (by decide) gX10_digest_X10_mix rfl rfl rfl (by decide +kernel) ⟨Nat.le_of_ble_eq_true rfl, Nat.le_of_ble_eq_true rfl⟩ rfl rfl rfl rfl rfl (Nat.le_of_ble_eq_true rfl) dX10_digest_85 (Nat.le_of_ble_eq_true rfl) (Nat.le_of_ble_eq_true rfl)) [0, 1, 2] [] rfl rfl (by decide) (by decide) rfl rfl (fun u_55 h_56 => ?_)
  obtain ⟨o_57, eu_55⟩ : ∃ z, z = u_55 := ⟨_, rfl⟩; subst eu_55
  have e_58 : o_57 = f_X10_mix_o0_4 o_51 x_53 := h_56
  refine sw_eq (ws' := [(h0, .inr (10, [.ref b0, .ref b1, .int np, .int 0, .long o_57])), (b0, .inl (G.2.1.2, 344, .inr (.inl S))), (b1, .inl (G.2.1.2, 1032, .inr (.inl P)))]) (lv' := [(1, .int 1), (0, .ref h0)]) (st' := []) rfl rfl rfl ?_
  refine sw_iinc (pc := 88) (v := 2) (lv' := [(1, .int 2), (0, .ref h0)]) F T.1 dX10_digest_88 (q := 0) rfl rfl (by decide) rfl ?_
  refine sw_goto (pc := 91) (tgt := 31) F dX10_digest_91 (by decide) ?_
  refine sw_iload_n (pc := 31) F dX10_digest_31 rfl 0 rfl ?_
  refine sw_iconst (pc := 32) (v := 4) F dX10_digest_32 rfl ?_
  refine sw_icmp_ge (pc := 33) (tgt := 94) F dX10_digest_33 (by decide) (fun c => absurd c (by decide)) (fun _ => ?_)
  refine sw_aload_n (pc := 36) F dX10_digest_36 rfl 1 rfl ?_
  refine sw_aload_n (pc := 37) F dX10_digest_37 rfl 1 rfl ?_
  refine sw_get (pc := 38) (Cn := RX10) (T := TX10) (N := 5) (ci := 10) (v := .ref b0) F in10 0 rfl rfl 0 (by decide) rfl (List.mem_of_getElem? (i := 6) rfl) rfl dX10_digest_38 ?_
  refine sw_bipush (pc := 41) (v := 6) F dX10_digest_41 rfl ?_
  refine sw_iload_n (pc := 43) F dX10_digest_43 rfl 0 rfl ?_
  refine sw_iadd (pc := 44) F dX10_digest_44 ?_
  refine sw_eqt (v := .int 8) (by rfl) ?_
  refine sw_lald (pc := 45) F 1 rfl (sw_in rfl) dX10_digest_45 ?_
  refine sw_naml (e := S 8) rfl (fun x_59 ex_59 => ?_)
  refine sw_callv (pc := 46) (wr := []) (k' := 0) (n' := 0) F (sw_runV (R := ({ frames := 3, cells := 0, slots := 0, locals := 71 } : Room)) (q0 := 0) (na := 1) F T.2.1 T.2.2.1 (k_X10_mix l G h0 b0 b1 np 0 o_57 S P x_59) [0, 1, 2] rfl (by decide) gX10_digest_X10_mix rfl rfl rfl (by decide +kernel) ⟨Nat.le_of_ble_eq_true rfl, Nat.le_of_ble_eq_true rfl⟩ rfl rfl rfl rfl rfl (Nat.le_of_ble_eq_true rfl) dX10_digest_46 (Nat.le_of_ble_eq_true rfl) (Nat.le_of_ble_eq_true rfl)) [0, 1, 2] [] rfl rfl (by decide) (by decide) rfl rfl (fun u_61 h_62 => ?_)
  obtain ⟨o_63, eu_61⟩ : ∃ z, z = u_61 := ⟨_, rfl⟩; subst eu_61
  have e_64 : o_63 = f_X10_mix_o0_4 o_57 x_59 := h_62
  refine sw_eq (ws' := [(h0, .inr (10, [.ref b0, .ref b1, .int np, .int 0, .long o_63])), (b0, .inl (G.2.1.2, 344, .inr (.inl S))), (b1, .inl (G.2.1.2, 1032, .inr (.inl P)))]) (lv' := [(1, .int 2), (0, .ref h0)]) (st' := []) rfl rfl rfl ?_
  refine sw_aload_n (pc := 49) F dX10_digest_49 rfl 1 rfl ?_
  refine sw_aload_n (pc := 50) F dX10_digest_50 rfl 1 rfl ?_
  refine sw_get (pc := 51) (Cn := RX10) (T := TX10) (N := 5) (ci := 10) (v := .ref b0) F in10 0 rfl rfl 0 (by decide) rfl (List.mem_of_getElem? (i := 6) rfl) rfl dX10_digest_51 ?_
  refine sw_bipush (pc := 54) (v := 10) F dX10_digest_54 rfl ?_
  refine sw_iload_n (pc := 56) F dX10_digest_56 rfl 0 rfl ?_
  refine sw_iadd (pc := 57) F dX10_digest_57 ?_
  refine sw_eqt (v := .int 12) (by rfl) ?_
  refine sw_lald (pc := 58) F 1 rfl (sw_in rfl) dX10_digest_58 ?_
  refine sw_naml (e := S 12) rfl (fun x_65 ex_65 => ?_)
  refine sw_callv (pc := 59) (wr := []) (k' := 0) (n' := 0) F (sw_runV (R := ({ frames := 3, cells := 0, slots := 0, locals := 71 } : Room)) (q0 := 0) (na := 1) F T.2.1 T.2.2.1 (k_X10_mix l G h0 b0 b1 np 0 o_63 S P x_65) [0, 1, 2] rfl (by decide) gX10_digest_X10_mix rfl rfl rfl (by decide +kernel) ⟨Nat.le_of_ble_eq_true rfl, Nat.le_of_ble_eq_true rfl⟩ rfl rfl rfl rfl rfl (Nat.le_of_ble_eq_true rfl) dX10_digest_59 (Nat.le_of_ble_eq_true rfl) (Nat.le_of_ble_eq_true rfl)) [0, 1, 2] [] rfl rfl (by decide) (by decide) rfl rfl (fun u_67 h_68 => ?_)
  obtain ⟨o_69, eu_67⟩ : ∃ z, z = u_67 := ⟨_, rfl⟩; subst eu_67
  have e_70 : o_69 = f_X10_mix_o0_4 o_63 x_65 := h_68
  refine sw_eq (ws' := [(h0, .inr (10, [.ref b0, .ref b1, .int np, .int 0, .long o_69])), (b0, .inl (G.2.1.2, 344, .inr (.inl S))), (b1, .inl (G.2.1.2, 1032, .inr (.inl P)))]) (lv' := [(1, .int 2), (0, .ref h0)]) (st' := []) rfl rfl rfl ?_
  refine sw_aload_n (pc := 62) F dX10_digest_62 rfl 1 rfl ?_
  refine sw_aload_n (pc := 63) F dX10_digest_63 rfl 1 rfl ?_
  refine sw_get (pc := 64) (Cn := RX10) (T := TX10) (N := 5) (ci := 10) (v := .ref b0) F in10 0 rfl rfl 0 (by decide) rfl (List.mem_of_getElem? (i := 6) rfl) rfl dX10_digest_64 ?_
  refine sw_bipush (pc := 67) (v := 14) F dX10_digest_67 rfl ?_
  refine sw_iload_n (pc := 69) F dX10_digest_69 rfl 0 rfl ?_
  refine sw_iadd (pc := 70) F dX10_digest_70 ?_
  refine sw_eqt (v := .int 16) (by rfl) ?_
  refine sw_lald (pc := 71) F 1 rfl (sw_in rfl) dX10_digest_71 ?_
  refine sw_naml (e := S 16) rfl (fun x_71 ex_71 => ?_)
  refine sw_callv (pc := 72) (wr := []) (k' := 0) (n' := 0) F (sw_runV (R := ({ frames := 3, cells := 0, slots := 0, locals := 71 } : Room)) (q0 := 0) (na := 1) F T.2.1 T.2.2.1 (k_X10_mix l G h0 b0 b1 np 0 o_69 S P x_71) [0, 1, 2] rfl (by decide) gX10_digest_X10_mix rfl rfl rfl (by decide +kernel) ⟨Nat.le_of_ble_eq_true rfl, Nat.le_of_ble_eq_true rfl⟩ rfl rfl rfl rfl rfl (Nat.le_of_ble_eq_true rfl) dX10_digest_72 (Nat.le_of_ble_eq_true rfl) (Nat.le_of_ble_eq_true rfl)) [0, 1, 2] [] rfl rfl (by decide) (by decide) rfl rfl (fun u_73 h_74 => ?_)
  obtain ⟨o_75, eu_73⟩ : ∃ z, z = u_73 := ⟨_, rfl⟩; subst eu_73
  have e_76 : o_75 = f_X10_mix_o0_4 o_69 x_71 := h_74
  refine sw_eq (ws' := [(h0, .inr (10, [.ref b0, .ref b1, .int np, .int 0, .long o_75])), (b0, .inl (G.2.1.2, 344, .inr (.inl S))), (b1, .inl (G.2.1.2, 1032, .inr (.inl P)))]) (lv' := [(1, .int 2), (0, .ref h0)]) (st' := []) rfl rfl rfl ?_
  refine sw_aload_n (pc := 75) F dX10_digest_75 rfl 1 rfl ?_
  refine sw_aload_n (pc := 76) F dX10_digest_76 rfl 1 rfl ?_
  refine sw_get (pc := 77) (Cn := RX10) (T := TX10) (N := 5) (ci := 10) (v := .ref b0) F in10 0 rfl rfl 0 (by decide) rfl (List.mem_of_getElem? (i := 6) rfl) rfl dX10_digest_77 ?_
  refine sw_bipush (pc := 80) (v := 18) F dX10_digest_80 rfl ?_
  refine sw_iload_n (pc := 82) F dX10_digest_82 rfl 0 rfl ?_
  refine sw_iadd (pc := 83) F dX10_digest_83 ?_
  refine sw_eqt (v := .int 20) (by rfl) ?_
  refine sw_lald (pc := 84) F 1 rfl (sw_in rfl) dX10_digest_84 ?_
  refine sw_naml (e := S 20) rfl (fun x_77 ex_77 => ?_)
  refine sw_callv (pc := 85) (wr := []) (k' := 0) (n' := 0) F (sw_runV (R := ({ frames := 3, cells := 0, slots := 0, locals := 71 } : Room)) (q0 := 0) (na := 1) F T.2.1 T.2.2.1 (k_X10_mix l G h0 b0 b1 np 0 o_75 S P x_77) [0, 1, 2] rfl (by decide) gX10_digest_X10_mix rfl rfl rfl (by decide +kernel) ⟨Nat.le_of_ble_eq_true rfl, Nat.le_of_ble_eq_true rfl⟩ rfl rfl rfl rfl rfl (Nat.le_of_ble_eq_true rfl) dX10_digest_85 (Nat.le_of_ble_eq_true rfl) (Nat.le_of_ble_eq_true rfl)) [0, 1, 2] [] rfl rfl (by decide) (by decide) rfl rfl (fun u_79 h_80 => ?_)
  obtain ⟨o_81, eu_79⟩ : ∃ z, z = u_79 := ⟨_, rfl⟩; subst eu_79
  have e_82 : o_81 = f_X10_mix_o0_4 o_75 x_77 := h_80
  refine sw_eq (ws' := [(h0, .inr (10, [.ref b0, .ref b1, .int np, .int 0, .long o_81])), (b0, .inl (G.2.1.2, 344, .inr (.inl S))), (b1, .inl (G.2.1.2, 1032, .inr (.inl P)))]) (lv' := [(1, .int 2), (0, .ref h0)]) (st' := []) rfl rfl rfl ?_
  refine sw_iinc (pc := 88) (v := 3) (lv' := [(1, .int 3), (0, .ref h0)]) F T.1 dX10_digest_88 (q := 0) rfl rfl (by decide) rfl ?_
  refine sw_goto (pc := 91) (tgt := 31) F dX10_digest_91 (by decide) ?_
  refine sw_iload_n (pc := 31) F dX10_digest_31 rfl 0 rfl ?_
  refine sw_iconst (pc := 32) (v := 4) F dX10_digest_32 rfl ?_
  refine sw_icmp_ge (pc := 33) (tgt := 94) F dX10_digest_33 (by decide) (fun c => absurd c (by decide)) (fun _ => ?_)
  refine sw_aload_n (pc := 36) F dX10_digest_36 rfl 1 rfl ?_
  refine sw_aload_n (pc := 37) F dX10_digest_37 rfl 1 rfl ?_
  refine sw_get (pc := 38) (Cn := RX10) (T := TX10) (N := 5) (ci := 10) (v := .ref b0) F in10 0 rfl rfl 0 (by decide) rfl (List.mem_of_getElem? (i := 6) rfl) rfl dX10_digest_38 ?_
  refine sw_bipush (pc := 41) (v := 6) F dX10_digest_41 rfl ?_
  refine sw_iload_n (pc := 43) F dX10_digest_43 rfl 0 rfl ?_
  refine sw_iadd (pc := 44) F dX10_digest_44 ?_
  refine sw_eqt (v := .int 9) (by rfl) ?_
  refine sw_lald (pc := 45) F 1 rfl (sw_in rfl) dX10_digest_45 ?_
  refine sw_naml (e := S 9) rfl (fun x_83 ex_83 => ?_)
  refine sw_callv (pc := 46) (wr := []) (k' := 0) (n' := 0) F (sw_runV (R := ({ frames := 3, cells := 0, slots := 0, locals := 71 } : Room)) (q0 := 0) (na := 1) F T.2.1 T.2.2.1 (k_X10_mix l G h0 b0 b1 np 0 o_81 S P x_83) [0, 1, 2] rfl (by decide) gX10_digest_X10_mix rfl rfl rfl (by decide +kernel) ⟨Nat.le_of_ble_eq_true rfl, Nat.le_of_ble_eq_true rfl⟩ rfl rfl rfl rfl rfl (Nat.le_of_ble_eq_true rfl) dX10_digest_46 (Nat.le_of_ble_eq_true rfl) (Nat.le_of_ble_eq_true rfl)) [0, 1, 2] [] rfl rfl (by decide) (by decide) rfl rfl (fun u_85 h_86 => ?_)
  obtain ⟨o_87, eu_85⟩ : ∃ z, z = u_85 := ⟨_, rfl⟩; subst eu_85
  have e_88 : o_87 = f_X10_mix_o0_4 o_81 x_83 := h_86
  refine sw_eq (ws' := [(h0, .inr (10, [.ref b0, .ref b1, .int np, .int 0, .long o_87])), (b0, .inl (G.2.1.2, 344, .inr (.inl S))), (b1, .inl (G.2.1.2, 1032, .inr (.inl P)))]) (lv' := [(1, .int 3), (0, .ref h0)]) (st' := []) rfl rfl rfl ?_
  refine sw_aload_n (pc := 49) F dX10_digest_49 rfl 1 rfl ?_
  refine sw_aload_n (pc := 50) F dX10_digest_50 rfl 1 rfl ?_
  refine sw_get (pc := 51) (Cn := RX10) (T := TX10) (N := 5) (ci := 10) (v := .ref b0) F in10 0 rfl rfl 0 (by decide) rfl (List.mem_of_getElem? (i := 6) rfl) rfl dX10_digest_51 ?_
  refine sw_bipush (pc := 54) (v := 10) F dX10_digest_54 rfl ?_
  refine sw_iload_n (pc := 56) F dX10_digest_56 rfl 0 rfl ?_
  refine sw_iadd (pc := 57) F dX10_digest_57 ?_
  refine sw_eqt (v := .int 13) (by rfl) ?_
  refine sw_lald (pc := 58) F 1 rfl (sw_in rfl) dX10_digest_58 ?_
  refine sw_naml (e := S 13) rfl (fun x_89 ex_89 => ?_)
  refine sw_callv (pc := 59) (wr := []) (k' := 0) (n' := 0) F (sw_runV (R := ({ frames := 3, cells := 0, slots := 0, locals := 71 } : Room)) (q0 := 0) (na := 1) F T.2.1 T.2.2.1 (k_X10_mix l G h0 b0 b1 np 0 o_87 S P x_89) [0, 1, 2] rfl (by decide) gX10_digest_X10_mix rfl rfl rfl (by decide +kernel) ⟨Nat.le_of_ble_eq_true rfl, Nat.le_of_ble_eq_true rfl⟩ rfl rfl rfl rfl rfl (Nat.le_of_ble_eq_true rfl) dX10_digest_59 (Nat.le_of_ble_eq_true rfl) (Nat.le_of_ble_eq_true rfl)) [0, 1, 2] [] rfl rfl (by decide) (by decide) rfl rfl (fun u_91 h_92 => ?_)
  obtain ⟨o_93, eu_91⟩ : ∃ z, z = u_91 := ⟨_, rfl⟩; subst eu_91
  have e_94 : o_93 = f_X10_mix_o0_4 o_87 x_89 := h_92
  refine sw_eq (ws' := [(h0, .inr (10, [.ref b0, .ref b1, .int np, .int 0, .long o_93])), (b0, .inl (G.2.1.2, 344, .inr (.inl S))), (b1, .inl (G.2.1.2, 1032, .inr (.inl P)))]) (lv' := [(1, .int 3), (0, .ref h0)]) (st' := []) rfl rfl rfl ?_
  refine sw_aload_n (pc := 62) F dX10_digest_62 rfl 1 rfl ?_
  refine sw_aload_n (pc := 63) F dX10_digest_63 rfl 1 rfl ?_
  refine sw_get (pc := 64) (Cn := RX10) (T := TX10) (N := 5) (ci := 10) (v := .ref b0) F in10 0 rfl rfl 0 (by decide) rfl (List.mem_of_getElem? (i := 6) rfl) rfl dX10_digest_64 ?_
  refine sw_bipush (pc := 67) (v := 14) F dX10_digest_67 rfl ?_
  refine sw_iload_n (pc := 69) F dX10_digest_69 rfl 0 rfl ?_
  refine sw_iadd (pc := 70) F dX10_digest_70 ?_
  refine sw_eqt (v := .int 17) (by rfl) ?_
  refine sw_lald (pc := 71) F 1 rfl (sw_in rfl) dX10_digest_71 ?_
  refine sw_naml (e := S 17) rfl (fun x_95 ex_95 => ?_)
  refine sw_callv (pc := 72) (wr := []) (k' := 0) (n' := 0) F (sw_runV (R := ({ frames := 3, cells := 0, slots := 0, locals := 71 } : Room)) (q0 := 0) (na := 1) F T.2.1 T.2.2.1 (k_X10_mix l G h0 b0 b1 np 0 o_93 S P x_95) [0, 1, 2] rfl (by decide) gX10_digest_X10_mix rfl rfl rfl (by decide +kernel) ⟨Nat.le_of_ble_eq_true rfl, Nat.le_of_ble_eq_true rfl⟩ rfl rfl rfl rfl rfl (Nat.le_of_ble_eq_true rfl) dX10_digest_72 (Nat.le_of_ble_eq_true rfl) (Nat.le_of_ble_eq_true rfl)) [0, 1, 2] [] rfl rfl (by decide) (by decide) rfl rfl (fun u_97 h_98 => ?_)
  obtain ⟨o_99, eu_97⟩ : ∃ z, z = u_97 := ⟨_, rfl⟩; subst eu_97
  have e_100 : o_99 = f_X10_mix_o0_4 o_93 x_95 := h_98
  refine sw_eq (ws' := [(h0, .inr (10, [.ref b0, .ref b1, .int np, .int 0, .long o_99])), (b0, .inl (G.2.1.2, 344, .inr (.inl S))), (b1, .inl (G.2.1.2, 1032, .inr (.inl P)))]) (lv' := [(1, .int 3), (0, .ref h0)]) (st' := []) rfl rfl rfl ?_
  refine sw_aload_n (pc := 75) F dX10_digest_75 rfl 1 rfl ?_
  refine sw_aload_n (pc := 76) F dX10_digest_76 rfl 1 rfl ?_
  refine sw_get (pc := 77) (Cn := RX10) (T := TX10) (N := 5) (ci := 10) (v := .ref b0) F in10 0 rfl rfl 0 (by decide) rfl (List.mem_of_getElem? (i := 6) rfl) rfl dX10_digest_77 ?_
  refine sw_bipush (pc := 80) (v := 18) F dX10_digest_80 rfl ?_
  refine sw_iload_n (pc := 82) F dX10_digest_82 rfl 0 rfl ?_
  refine sw_iadd (pc := 83) F dX10_digest_83 ?_
  refine sw_eqt (v := .int 21) (by rfl) ?_
  refine sw_lald (pc := 84) F 1 rfl (sw_in rfl) dX10_digest_84 ?_
  refine sw_naml (e := S 21) rfl (fun x_101 ex_101 => ?_)
  refine sw_callv (pc := 85) (wr := []) (k' := 0) (n' := 0) F (sw_runV (R := ({ frames := 3, cells := 0, slots := 0, locals := 71 } : Room)) (q0 := 0) (na := 1) F T.2.1 T.2.2.1 (k_X10_mix l G h0 b0 b1 np 0 o_99 S P x_101) [0, 1, 2] rfl (by decide) gX10_digest_X10_mix rfl rfl rfl (by decide +kernel) ⟨Nat.le_of_ble_eq_true rfl, Nat.le_of_ble_eq_true rfl⟩ rfl rfl rfl rfl rfl (Nat.le_of_ble_eq_true rfl) dX10_digest_85 (Nat.le_of_ble_eq_true rfl) (Nat.le_of_ble_eq_true rfl)) [0, 1, 2] [] rfl rfl (by decide) (by decide) rfl rfl (fun u_103 h_104 => ?_)
  obtain ⟨o_105, eu_103⟩ : ∃ z, z = u_103 := ⟨_, rfl⟩; subst eu_103
  have e_106 : o_105 = f_X10_mix_o0_4 o_99 x_101 := h_104
  refine sw_eq (ws' := [(h0, .inr (10, [.ref b0, .ref b1, .int np, .int 0, .long o_105])), (b0, .inl (G.2.1.2, 344, .inr (.inl S))), (b1, .inl (G.2.1.2, 1032, .inr (.inl P)))]) (lv' := [(1, .int 3), (0, .ref h0)]) (st' := []) rfl rfl rfl ?_
  refine sw_iinc (pc := 88) (v := 4) (lv' := [(1, .int 4), (0, .ref h0)]) F T.1 dX10_digest_88 (q := 0) rfl rfl (by decide) rfl ?_
  refine sw_goto (pc := 91) (tgt := 31) F dX10_digest_91 (by decide) ?_
  refine sw_iload_n (pc := 31) F dX10_digest_31 rfl 0 rfl ?_
  refine sw_iconst (pc := 32) (v := 4) F dX10_digest_32 rfl ?_
  refine sw_icmp_ge (pc := 33) (tgt := 94) F dX10_digest_33 (by decide) (fun _ => ?_) (fun c => absurd c (by decide))
  refine sw_aload_n (pc := 94) F dX10_digest_94 rfl 1 rfl ?_
  refine sw_bipush (pc := 95) (v := 26) F dX10_digest_95 rfl ?_
  refine sw_ldc2 (pc := 97) (v := 11) F (List.mem_of_getElem? (i := 7) rfl) dX10_digest_97 ?_
  refine sw_callv (pc := 100) (wr := []) (k' := 0) (n' := 0) F (sw_runV (R := ({ frames := 3, cells := 0, slots := 0, locals := 71 } : Room)) (q0 := 0) (na := 2) F T.2.1 T.2.2.1 (k_X10_mixes l G h0 b0 b1 np 0 o_105 S P 26 26 11 11 rfl rfl (by decide)) [0, 1, 2] rfl (by decide) gX10_digest_X10_mixes rfl rfl rfl (by decide +kernel) ⟨Nat.le_of_ble_eq_true rfl, Nat.le_of_ble_eq_true rfl⟩ rfl rfl rfl rfl rfl (Nat.le_of_ble_eq_true rfl) dX10_digest_100 (Nat.le_of_ble_eq_true rfl) (Nat.le_of_ble_eq_true rfl)) [0, 1, 2] [] rfl rfl (by decide) (by decide) rfl rfl (fun u_108 h_109 => ?_)
  obtain ⟨o_110, eu_108⟩ : ∃ z, z = u_108 := ⟨_, rfl⟩; subst eu_108
  have e_111 : o_110 = mx S o_105 26 11 := h_109
  refine sw_eq (ws' := [(h0, .inr (10, [.ref b0, .ref b1, .int np, .int 0, .long o_110])), (b0, .inl (G.2.1.2, 344, .inr (.inl S))), (b1, .inl (G.2.1.2, 1032, .inr (.inl P)))]) (lv' := [(1, .int 4), (0, .ref h0)]) (st' := []) rfl rfl rfl ?_
  refine sw_aload_n (pc := 103) F dX10_digest_103 rfl 1 rfl ?_
  refine sw_bipush (pc := 104) (v := 37) F dX10_digest_104 rfl ?_
  refine sw_ldc2 (pc := 106) (v := 3) F (List.mem_of_getElem? (i := 8) rfl) dX10_digest_106 ?_
  refine sw_callv (pc := 109) (wr := []) (k' := 0) (n' := 0) F (sw_runV (R := ({ frames := 3, cells := 0, slots := 0, locals := 71 } : Room)) (q0 := 0) (na := 2) F T.2.1 T.2.2.1 (k_X10_mixes l G h0 b0 b1 np 0 o_110 S P 37 37 3 3 rfl rfl (by decide)) [0, 1, 2] rfl (by decide) gX10_digest_X10_mixes rfl rfl rfl (by decide +kernel) ⟨Nat.le_of_ble_eq_true rfl, Nat.le_of_ble_eq_true rfl⟩ rfl rfl rfl rfl rfl (Nat.le_of_ble_eq_true rfl) dX10_digest_109 (Nat.le_of_ble_eq_true rfl) (Nat.le_of_ble_eq_true rfl)) [0, 1, 2] [] rfl rfl (by decide) (by decide) rfl rfl (fun u_113 h_114 => ?_)
  obtain ⟨o_115, eu_113⟩ : ∃ z, z = u_113 := ⟨_, rfl⟩; subst eu_113
  have e_116 : o_115 = mx S o_110 37 3 := h_114
  refine sw_eq (ws' := [(h0, .inr (10, [.ref b0, .ref b1, .int np, .int 0, .long o_115])), (b0, .inl (G.2.1.2, 344, .inr (.inl S))), (b1, .inl (G.2.1.2, 1032, .inr (.inl P)))]) (lv' := [(1, .int 4), (0, .ref h0)]) (st' := []) rfl rfl rfl ?_
  refine sw_aload_n (pc := 112) F dX10_digest_112 rfl 1 rfl ?_
  refine sw_aload_n (pc := 113) F dX10_digest_113 rfl 1 rfl ?_
  refine sw_calll (pc := 114) (wr := []) (k' := 0) (n' := 0) F (sw_runV (R := ({ frames := 3, cells := 0, slots := 0, locals := 71 } : Room)) (q0 := 0) (na := 0) F T.2.1 T.2.2.1 (k_X10_densityNow l G h0 b0 b1 np 0 o_115 S P (by assumption)) [0, 1, 2] rfl (by decide) gX10_digest_X10_densityNow rfl rfl rfl (by decide +kernel) ⟨Nat.le_of_ble_eq_true rfl, Nat.le_of_ble_eq_true rfl⟩ rfl rfl rfl rfl rfl (Nat.le_of_ble_eq_true rfl) dX10_digest_114 (Nat.le_of_ble_eq_true rfl) (Nat.le_of_ble_eq_true rfl)) [0, 1, 2] [] rfl rfl (by decide) (by decide) rfl rfl (fun r_117 u_118 h_119 => ?_)
  have e_120 : r_117 = f_X10_densityNow_r S := h_119
  refine sw_eq (ws' := [(h0, .inr (10, [.ref b0, .ref b1, .int np, .int 0, .long o_115])), (b0, .inl (G.2.1.2, 344, .inr (.inl S))), (b1, .inl (G.2.1.2, 1032, .inr (.inl P)))]) (lv' := [(1, .int 4), (0, .ref h0)]) (st' := [.long r_117, .ref h0]) rfl rfl rfl ?_
  refine sw_callv (pc := 117) (wr := []) (k' := 0) (n' := 0) F (sw_runV (R := ({ frames := 3, cells := 0, slots := 0, locals := 71 } : Room)) (q0 := 0) (na := 1) F T.2.1 T.2.2.1 (k_X10_mix l G h0 b0 b1 np 0 o_115 S P r_117) [0, 1, 2] rfl (by decide) gX10_digest_X10_mix rfl rfl rfl (by decide +kernel) ⟨Nat.le_of_ble_eq_true rfl, Nat.le_of_ble_eq_true rfl⟩ rfl rfl rfl rfl rfl (Nat.le_of_ble_eq_true rfl) dX10_digest_117 (Nat.le_of_ble_eq_true rfl) (Nat.le_of_ble_eq_true rfl)) [0, 1, 2] [] rfl rfl (by decide) (by decide) rfl rfl (fun u_122 h_123 => ?_)
  obtain ⟨o_124, eu_122⟩ : ∃ z, z = u_122 := ⟨_, rfl⟩; subst eu_122
  have e_125 : o_124 = f_X10_mix_o0_4 o_115 r_117 := h_123
  refine sw_eq (ws' := [(h0, .inr (10, [.ref b0, .ref b1, .int np, .int 0, .long o_124])), (b0, .inl (G.2.1.2, 344, .inr (.inl S))), (b1, .inl (G.2.1.2, 1032, .inr (.inl P)))]) (lv' := [(1, .int 4), (0, .ref h0)]) (st' := []) rfl rfl rfl ?_
  refine sw_aload_n (pc := 120) F dX10_digest_120 rfl 1 rfl ?_
  refine sw_bipush (pc := 121) (v := 40) F dX10_digest_121 rfl ?_
  refine sw_ldc2 (pc := 123) (v := 2) F (List.mem_of_getElem? (i := 9) rfl) dX10_digest_123 ?_
  refine sw_callv (pc := 126) (wr := []) (k' := 0) (n' := 0) F (sw_runV (R := ({ frames := 3, cells := 0, slots := 0, locals := 71 } : Room)) (q0 := 0) (na := 2) F T.2.1 T.2.2.1 (k_X10_mixes l G h0 b0 b1 np 0 o_124 S P 40 40 2 2 rfl rfl (by decide)) [0, 1, 2] rfl (by decide) gX10_digest_X10_mixes rfl rfl rfl (by decide +kernel) ⟨Nat.le_of_ble_eq_true rfl, Nat.le_of_ble_eq_true rfl⟩ rfl rfl rfl rfl rfl (Nat.le_of_ble_eq_true rfl) dX10_digest_126 (Nat.le_of_ble_eq_true rfl) (Nat.le_of_ble_eq_true rfl)) [0, 1, 2] [] rfl rfl (by decide) (by decide) rfl rfl (fun u_127 h_128 => ?_)
  obtain ⟨o_129, eu_127⟩ : ∃ z, z = u_127 := ⟨_, rfl⟩; subst eu_127
  have e_130 : o_129 = mx S o_124 40 2 := h_128
  refine sw_eq (ws' := [(h0, .inr (10, [.ref b0, .ref b1, .int np, .int 0, .long o_129])), (b0, .inl (G.2.1.2, 344, .inr (.inl S))), (b1, .inl (G.2.1.2, 1032, .inr (.inl P)))]) (lv' := [(1, .int 4), (0, .ref h0)]) (st' := []) rfl rfl rfl ?_
  refine sw_iconst (pc := 129) (v := 0) F dX10_digest_129 rfl ?_
  refine sw_istore_n (pc := 130) (lv' := [(1, .int 0), (0, .ref h0)]) F T.1 dX10_digest_130 rfl (by decide) rfl ?_
  refine sw_iload_n (pc := 131) F dX10_digest_131 rfl 0 rfl ?_
  refine sw_iconst (pc := 132) (v := 4) F dX10_digest_132 rfl ?_
  refine sw_icmp_ge (pc := 133) (tgt := 151) F dX10_digest_133 (by decide) (fun c => absurd c (by decide)) (fun _ => ?_)
  refine sw_aload_n (pc := 136) F dX10_digest_136 rfl 1 rfl ?_
  refine sw_aload_n (pc := 137) F dX10_digest_137 rfl 1 rfl ?_
  refine sw_iload_n (pc := 138) F dX10_digest_138 rfl 0 rfl ?_
  refine sw_calll (pc := 139) (wr := []) (k' := 0) (n' := 0) F (sw_runV (R := ({ frames := 3, cells := 0, slots := 0, locals := 71 } : Room)) (q0 := 0) (na := 1) F T.2.1 T.2.2.1 (k_X10_totalOf_0 l G h0 b0 b1 np 0 o_129 S P) [0, 1, 2] rfl (by decide) gX10_digest_X10_totalOf rfl rfl rfl (by decide +kernel) ⟨Nat.le_of_ble_eq_true rfl, Nat.le_of_ble_eq_true rfl⟩ rfl rfl rfl rfl rfl (Nat.le_of_ble_eq_true rfl) dX10_digest_139 (Nat.le_of_ble_eq_true rfl) (Nat.le_of_ble_eq_true rfl)) [0, 1, 2] [] rfl rfl (by decide) (by decide) rfl rfl (fun r_131 u_132 h_133 => ?_)
  have e_134 : r_131 = f_X10_totalOf_0_r S := h_133
  refine sw_eq (ws' := [(h0, .inr (10, [.ref b0, .ref b1, .int np, .int 0, .long o_129])), (b0, .inl (G.2.1.2, 344, .inr (.inl S))), (b1, .inl (G.2.1.2, 1032, .inr (.inl P)))]) (lv' := [(1, .int 0), (0, .ref h0)]) (st' := [.long r_131, .ref h0]) rfl rfl rfl ?_
  refine sw_callv (pc := 142) (wr := []) (k' := 0) (n' := 0) F (sw_runV (R := ({ frames := 3, cells := 0, slots := 0, locals := 71 } : Room)) (q0 := 0) (na := 1) F T.2.1 T.2.2.1 (k_X10_mix l G h0 b0 b1 np 0 o_129 S P r_131) [0, 1, 2] rfl (by decide) gX10_digest_X10_mix rfl rfl rfl (by decide +kernel) ⟨Nat.le_of_ble_eq_true rfl, Nat.le_of_ble_eq_true rfl⟩ rfl rfl rfl rfl rfl (Nat.le_of_ble_eq_true rfl) dX10_digest_142 (Nat.le_of_ble_eq_true rfl) (Nat.le_of_ble_eq_true rfl)) [0, 1, 2] [] rfl rfl (by decide) (by decide) rfl rfl (fun u_136 h_137 => ?_)
  obtain ⟨o_138, eu_136⟩ : ∃ z, z = u_136 := ⟨_, rfl⟩; subst eu_136
  have e_139 : o_138 = f_X10_mix_o0_4 o_129 r_131 := h_137
  refine sw_eq (ws' := [(h0, .inr (10, [.ref b0, .ref b1, .int np, .int 0, .long o_138])), (b0, .inl (G.2.1.2, 344, .inr (.inl S))), (b1, .inl (G.2.1.2, 1032, .inr (.inl P)))]) (lv' := [(1, .int 0), (0, .ref h0)]) (st' := []) rfl rfl rfl ?_
  refine sw_iinc (pc := 145) (v := 1) (lv' := [(1, .int 1), (0, .ref h0)]) F T.1 dX10_digest_145 (q := 0) rfl rfl (by decide) rfl ?_
  refine sw_goto (pc := 148) (tgt := 131) F dX10_digest_148 (by decide) ?_
  refine sw_iload_n (pc := 131) F dX10_digest_131 rfl 0 rfl ?_
  refine sw_iconst (pc := 132) (v := 4) F dX10_digest_132 rfl ?_
  refine sw_icmp_ge (pc := 133) (tgt := 151) F dX10_digest_133 (by decide) (fun c => absurd c (by decide)) (fun _ => ?_)
  refine sw_aload_n (pc := 136) F dX10_digest_136 rfl 1 rfl ?_
  refine sw_aload_n (pc := 137) F dX10_digest_137 rfl 1 rfl ?_
  refine sw_iload_n (pc := 138) F dX10_digest_138 rfl 0 rfl ?_
  refine sw_calll (pc := 139) (wr := []) (k' := 0) (n' := 0) F (sw_runV (R := ({ frames := 3, cells := 0, slots := 0, locals := 71 } : Room)) (q0 := 0) (na := 1) F T.2.1 T.2.2.1 (k_X10_totalOf_1 l G h0 b0 b1 np 0 o_138 S P) [0, 1, 2] rfl (by decide) gX10_digest_X10_totalOf rfl rfl rfl (by decide +kernel) ⟨Nat.le_of_ble_eq_true rfl, Nat.le_of_ble_eq_true rfl⟩ rfl rfl rfl rfl rfl (Nat.le_of_ble_eq_true rfl) dX10_digest_139 (Nat.le_of_ble_eq_true rfl) (Nat.le_of_ble_eq_true rfl)) [0, 1, 2] [] rfl rfl (by decide) (by decide) rfl rfl (fun r_140 u_141 h_142 => ?_)
  have e_143 : r_140 = f_X10_totalOf_1_r S := h_142
  refine sw_eq (ws' := [(h0, .inr (10, [.ref b0, .ref b1, .int np, .int 0, .long o_138])), (b0, .inl (G.2.1.2, 344, .inr (.inl S))), (b1, .inl (G.2.1.2, 1032, .inr (.inl P)))]) (lv' := [(1, .int 1), (0, .ref h0)]) (st' := [.long r_140, .ref h0]) rfl rfl rfl ?_
  refine sw_callv (pc := 142) (wr := []) (k' := 0) (n' := 0) F (sw_runV (R := ({ frames := 3, cells := 0, slots := 0, locals := 71 } : Room)) (q0 := 0) (na := 1) F T.2.1 T.2.2.1 (k_X10_mix l G h0 b0 b1 np 0 o_138 S P r_140) [0, 1, 2] rfl (by decide) gX10_digest_X10_mix rfl rfl rfl (by decide +kernel) ⟨Nat.le_of_ble_eq_true rfl, Nat.le_of_ble_eq_true rfl⟩ rfl rfl rfl rfl rfl (Nat.le_of_ble_eq_true rfl) dX10_digest_142 (Nat.le_of_ble_eq_true rfl) (Nat.le_of_ble_eq_true rfl)) [0, 1, 2] [] rfl rfl (by decide) (by decide) rfl rfl (fun u_145 h_146 => ?_)
  obtain ⟨o_147, eu_145⟩ : ∃ z, z = u_145 := ⟨_, rfl⟩; subst eu_145
  have e_148 : o_147 = f_X10_mix_o0_4 o_138 r_140 := h_146
  refine sw_eq (ws' := [(h0, .inr (10, [.ref b0, .ref b1, .int np, .int 0, .long o_147])), (b0, .inl (G.2.1.2, 344, .inr (.inl S))), (b1, .inl (G.2.1.2, 1032, .inr (.inl P)))]) (lv' := [(1, .int 1), (0, .ref h0)]) (st' := []) rfl rfl rfl ?_
  refine sw_iinc (pc := 145) (v := 2) (lv' := [(1, .int 2), (0, .ref h0)]) F T.1 dX10_digest_145 (q := 0) rfl rfl (by decide) rfl ?_
  refine sw_goto (pc := 148) (tgt := 131) F dX10_digest_148 (by decide) ?_
  refine sw_iload_n (pc := 131) F dX10_digest_131 rfl 0 rfl ?_
  refine sw_iconst (pc := 132) (v := 4) F dX10_digest_132 rfl ?_
  refine sw_icmp_ge (pc := 133) (tgt := 151) F dX10_digest_133 (by decide) (fun c => absurd c (by decide)) (fun _ => ?_)
  refine sw_aload_n (pc := 136) F dX10_digest_136 rfl 1 rfl ?_
  refine sw_aload_n (pc := 137) F dX10_digest_137 rfl 1 rfl ?_
  refine sw_iload_n (pc := 138) F dX10_digest_138 rfl 0 rfl ?_
  refine sw_calll (pc := 139) (wr := []) (k' := 0) (n' := 0) F (sw_runV (R := ({ frames := 3, cells := 0, slots := 0, locals := 71 } : Room)) (q0 := 0) (na := 1) F T.2.1 T.2.2.1 (k_X10_totalOf_2 l G h0 b0 b1 np 0 o_147 S P) [0, 1, 2] rfl (by decide) gX10_digest_X10_totalOf rfl rfl rfl (by decide +kernel) ⟨Nat.le_of_ble_eq_true rfl, Nat.le_of_ble_eq_true rfl⟩ rfl rfl rfl rfl rfl (Nat.le_of_ble_eq_true rfl) dX10_digest_139 (Nat.le_of_ble_eq_true rfl) (Nat.le_of_ble_eq_true rfl)) [0, 1, 2] [] rfl rfl (by decide) (by decide) rfl rfl (fun r_149 u_150 h_151 => ?_)
  have e_152 : r_149 = f_X10_totalOf_2_r S := h_151
  refine sw_eq (ws' := [(h0, .inr (10, [.ref b0, .ref b1, .int np, .int 0, .long o_147])), (b0, .inl (G.2.1.2, 344, .inr (.inl S))), (b1, .inl (G.2.1.2, 1032, .inr (.inl P)))]) (lv' := [(1, .int 2), (0, .ref h0)]) (st' := [.long r_149, .ref h0]) rfl rfl rfl ?_
  refine sw_callv (pc := 142) (wr := []) (k' := 0) (n' := 0) F (sw_runV (R := ({ frames := 3, cells := 0, slots := 0, locals := 71 } : Room)) (q0 := 0) (na := 1) F T.2.1 T.2.2.1 (k_X10_mix l G h0 b0 b1 np 0 o_147 S P r_149) [0, 1, 2] rfl (by decide) gX10_digest_X10_mix rfl rfl rfl (by decide +kernel) ⟨Nat.le_of_ble_eq_true rfl, Nat.le_of_ble_eq_true rfl⟩ rfl rfl rfl rfl rfl (Nat.le_of_ble_eq_true rfl) dX10_digest_142 (Nat.le_of_ble_eq_true rfl) (Nat.le_of_ble_eq_true rfl)) [0, 1, 2] [] rfl rfl (by decide) (by decide) rfl rfl (fun u_154 h_155 => ?_)
  obtain ⟨o_156, eu_154⟩ : ∃ z, z = u_154 := ⟨_, rfl⟩; subst eu_154
  have e_157 : o_156 = f_X10_mix_o0_4 o_147 r_149 := h_155
  refine sw_eq (ws' := [(h0, .inr (10, [.ref b0, .ref b1, .int np, .int 0, .long o_156])), (b0, .inl (G.2.1.2, 344, .inr (.inl S))), (b1, .inl (G.2.1.2, 1032, .inr (.inl P)))]) (lv' := [(1, .int 2), (0, .ref h0)]) (st' := []) rfl rfl rfl ?_
  refine sw_iinc (pc := 145) (v := 3) (lv' := [(1, .int 3), (0, .ref h0)]) F T.1 dX10_digest_145 (q := 0) rfl rfl (by decide) rfl ?_
  refine sw_goto (pc := 148) (tgt := 131) F dX10_digest_148 (by decide) ?_
  refine sw_iload_n (pc := 131) F dX10_digest_131 rfl 0 rfl ?_
  refine sw_iconst (pc := 132) (v := 4) F dX10_digest_132 rfl ?_
  refine sw_icmp_ge (pc := 133) (tgt := 151) F dX10_digest_133 (by decide) (fun c => absurd c (by decide)) (fun _ => ?_)
  refine sw_aload_n (pc := 136) F dX10_digest_136 rfl 1 rfl ?_
  refine sw_aload_n (pc := 137) F dX10_digest_137 rfl 1 rfl ?_
  refine sw_iload_n (pc := 138) F dX10_digest_138 rfl 0 rfl ?_
  refine sw_calll (pc := 139) (wr := []) (k' := 0) (n' := 0) F (sw_runV (R := ({ frames := 3, cells := 0, slots := 0, locals := 71 } : Room)) (q0 := 0) (na := 1) F T.2.1 T.2.2.1 (k_X10_totalOf_3 l G h0 b0 b1 np 0 o_156 S P) [0, 1, 2] rfl (by decide) gX10_digest_X10_totalOf rfl rfl rfl (by decide +kernel) ⟨Nat.le_of_ble_eq_true rfl, Nat.le_of_ble_eq_true rfl⟩ rfl rfl rfl rfl rfl (Nat.le_of_ble_eq_true rfl) dX10_digest_139 (Nat.le_of_ble_eq_true rfl) (Nat.le_of_ble_eq_true rfl)) [0, 1, 2] [] rfl rfl (by decide) (by decide) rfl rfl (fun r_158 u_159 h_160 => ?_)
  have e_161 : r_158 = f_X10_totalOf_3_r S := h_160
  refine sw_eq (ws' := [(h0, .inr (10, [.ref b0, .ref b1, .int np, .int 0, .long o_156])), (b0, .inl (G.2.1.2, 344, .inr (.inl S))), (b1, .inl (G.2.1.2, 1032, .inr (.inl P)))]) (lv' := [(1, .int 3), (0, .ref h0)]) (st' := [.long r_158, .ref h0]) rfl rfl rfl ?_
  refine sw_callv (pc := 142) (wr := []) (k' := 0) (n' := 0) F (sw_runV (R := ({ frames := 3, cells := 0, slots := 0, locals := 71 } : Room)) (q0 := 0) (na := 1) F T.2.1 T.2.2.1 (k_X10_mix l G h0 b0 b1 np 0 o_156 S P r_158) [0, 1, 2] rfl (by decide) gX10_digest_X10_mix rfl rfl rfl (by decide +kernel) ⟨Nat.le_of_ble_eq_true rfl, Nat.le_of_ble_eq_true rfl⟩ rfl rfl rfl rfl rfl (Nat.le_of_ble_eq_true rfl) dX10_digest_142 (Nat.le_of_ble_eq_true rfl) (Nat.le_of_ble_eq_true rfl)) [0, 1, 2] [] rfl rfl (by decide) (by decide) rfl rfl (fun u_163 h_164 => ?_)
  obtain ⟨o_165, eu_163⟩ : ∃ z, z = u_163 := ⟨_, rfl⟩; subst eu_163
  have e_166 : o_165 = f_X10_mix_o0_4 o_156 r_158 := h_164
  refine sw_eq (ws' := [(h0, .inr (10, [.ref b0, .ref b1, .int np, .int 0, .long o_165])), (b0, .inl (G.2.1.2, 344, .inr (.inl S))), (b1, .inl (G.2.1.2, 1032, .inr (.inl P)))]) (lv' := [(1, .int 3), (0, .ref h0)]) (st' := []) rfl rfl rfl ?_
  refine sw_iinc (pc := 145) (v := 4) (lv' := [(1, .int 4), (0, .ref h0)]) F T.1 dX10_digest_145 (q := 0) rfl rfl (by decide) rfl ?_
  refine sw_goto (pc := 148) (tgt := 131) F dX10_digest_148 (by decide) ?_
  refine sw_iload_n (pc := 131) F dX10_digest_131 rfl 0 rfl ?_
  refine sw_iconst (pc := 132) (v := 4) F dX10_digest_132 rfl ?_
  refine sw_icmp_ge (pc := 133) (tgt := 151) F dX10_digest_133 (by decide) (fun _ => ?_) (fun c => absurd c (by decide))
  refine sw_aload_n (pc := 151) F dX10_digest_151 rfl 1 rfl ?_
  refine sw_aload_n (pc := 152) F dX10_digest_152 rfl 1 rfl ?_
  refine sw_get (pc := 153) (Cn := RX10) (T := TX10) (N := 5) (ci := 10) (v := .ref b0) F in10 0 rfl rfl 0 (by decide) rfl (List.mem_of_getElem? (i := 6) rfl) rfl dX10_digest_153 ?_
  refine sw_bipush (pc := 156) (v := 49) F dX10_digest_156 rfl ?_
  refine sw_lald (pc := 158) F 1 rfl (sw_in rfl) dX10_digest_158 ?_
  refine sw_naml (e := S 49) rfl (fun x_167 ex_167 => ?_)
  refine sw_callv (pc := 159) (wr := []) (k' := 0) (n' := 0) F (sw_runV (R := ({ frames := 3, cells := 0, slots := 0, locals := 71 } : Room)) (q0 := 0) (na := 1) F T.2.1 T.2.2.1 (k_X10_mix l G h0 b0 b1 np 0 o_165 S P x_167) [0, 1, 2] rfl (by decide) gX10_digest_X10_mix rfl rfl rfl (by decide +kernel) ⟨Nat.le_of_ble_eq_true rfl, Nat.le_of_ble_eq_true rfl⟩ rfl rfl rfl rfl rfl (Nat.le_of_ble_eq_true rfl) dX10_digest_159 (Nat.le_of_ble_eq_true rfl) (Nat.le_of_ble_eq_true rfl)) [0, 1, 2] [] rfl rfl (by decide) (by decide) rfl rfl (fun u_169 h_170 => ?_)
  obtain ⟨o_171, eu_169⟩ : ∃ z, z = u_169 := ⟨_, rfl⟩; subst eu_169
  have e_172 : o_171 = f_X10_mix_o0_4 o_165 x_167 := h_170
  refine sw_eq (ws' := [(h0, .inr (10, [.ref b0, .ref b1, .int np, .int 0, .long o_171])), (b0, .inl (G.2.1.2, 344, .inr (.inl S))), (b1, .inl (G.2.1.2, 1032, .inr (.inl P)))]) (lv' := [(1, .int 4), (0, .ref h0)]) (st' := []) rfl rfl rfl ?_
  refine sw_aload_n (pc := 162) F dX10_digest_162 rfl 1 rfl ?_
  refine sw_bipush (pc := 163) (v := 63) F dX10_digest_163 rfl ?_
  refine sw_lconst (pc := 165) (v := 1) F dX10_digest_165 rfl ?_
  refine sw_ldc2 (pc := 166) (v := 7) F (List.mem_of_getElem? (i := 10) rfl) dX10_digest_166 ?_
  refine sw_aload_n (pc := 169) F dX10_digest_169 rfl 1 rfl ?_
  refine sw_get (pc := 170) (Cn := RX10) (T := TX10) (N := 5) (ci := 10) (v := .ref b0) F in10 0 rfl rfl 0 (by decide) rfl (List.mem_of_getElem? (i := 6) rfl) rfl dX10_digest_170 ?_
  refine sw_bipush (pc := 173) (v := 63) F dX10_digest_173 rfl ?_
  refine sw_lald (pc := 175) F 1 rfl (sw_in rfl) dX10_digest_175 ?_
  refine sw_naml (e := S 63) rfl (fun x_173 ex_173 => ?_)
  refine sw_lmul (pc := 176) F dX10_digest_176 ?_
  refine sw_topl (fun x_174 ex_174 => ?_)
  refine sw_ladd (pc := 177) F dX10_digest_177 ?_
  refine sw_topl (fun x_175 ex_175 => ?_)
  refine sw_callv (pc := 178) (wr := []) (k' := 0) (n' := 0) F (sw_runV (R := ({ frames := 3, cells := 0, slots := 0, locals := 71 } : Room)) (q0 := 0) (na := 2) F T.2.1 T.2.2.1 (k_X10_mixes l G h0 b0 b1 np 0 o_171 S P 63 63 x_175 ((1 + 7 * (S 63).toInt.toNat)) rfl (by subst_vars; exact dg_m hg.1) (by omega)) [0, 1, 2] rfl (by decide) gX10_digest_X10_mixes rfl rfl rfl (by decide +kernel) ⟨Nat.le_of_ble_eq_true rfl, Nat.le_of_ble_eq_true rfl⟩ rfl rfl rfl rfl rfl (Nat.le_of_ble_eq_true rfl) dX10_digest_178 (Nat.le_of_ble_eq_true rfl) (Nat.le_of_ble_eq_true rfl)) [0, 1, 2] [] rfl rfl (by decide) (by decide) rfl rfl (fun u_177 h_178 => ?_)
  obtain ⟨o_179, eu_177⟩ : ∃ z, z = u_177 := ⟨_, rfl⟩; subst eu_177
  have e_180 : o_179 = mx S o_171 63 ((1 + 7 * (S 63).toInt.toNat)) := h_178
  refine sw_eq (ws' := [(h0, .inr (10, [.ref b0, .ref b1, .int np, .int 0, .long o_179])), (b0, .inl (G.2.1.2, 344, .inr (.inl S))), (b1, .inl (G.2.1.2, 1032, .inr (.inl P)))]) (lv' := [(1, .int 4), (0, .ref h0)]) (st' := []) rfl rfl rfl ?_
  refine sw_aload_n (pc := 181) F dX10_digest_181 rfl 1 rfl ?_
  refine sw_sipush (pc := 182) (v := 232) F dX10_digest_182 rfl ?_
  refine sw_lconst (pc := 185) (v := 1) F dX10_digest_185 rfl ?_
  refine sw_ldc2 (pc := 186) (v := 4) F (List.mem_of_getElem? (i := 11) rfl) dX10_digest_186 ?_
  refine sw_aload_n (pc := 189) F dX10_digest_189 rfl 1 rfl ?_
  refine sw_get (pc := 190) (Cn := RX10) (T := TX10) (N := 5) (ci := 10) (v := .ref b0) F in10 0 rfl rfl 0 (by decide) rfl (List.mem_of_getElem? (i := 6) rfl) rfl dX10_digest_190 ?_
  refine sw_sipush (pc := 193) (v := 232) F dX10_digest_193 rfl ?_
  refine sw_lald (pc := 196) F 1 rfl (sw_in rfl) dX10_digest_196 ?_
  refine sw_naml (e := S 232) rfl (fun x_181 ex_181 => ?_)
  refine sw_lmul (pc := 197) F dX10_digest_197 ?_
  refine sw_topl (fun x_182 ex_182 => ?_)
  refine sw_ladd (pc := 198) F dX10_digest_198 ?_
  refine sw_topl (fun x_183 ex_183 => ?_)
  refine sw_callv (pc := 199) (wr := []) (k' := 0) (n' := 0) F (sw_runV (R := ({ frames := 3, cells := 0, slots := 0, locals := 71 } : Room)) (q0 := 0) (na := 2) F T.2.1 T.2.2.1 (k_X10_mixes l G h0 b0 b1 np 0 o_179 S P 232 232 x_183 ((1 + 4 * (S 232).toInt.toNat)) rfl (by subst_vars; exact dg_m hk.1) (by omega)) [0, 1, 2] rfl (by decide) gX10_digest_X10_mixes rfl rfl rfl (by decide +kernel) ⟨Nat.le_of_ble_eq_true rfl, Nat.le_of_ble_eq_true rfl⟩ rfl rfl rfl rfl rfl (Nat.le_of_ble_eq_true rfl) dX10_digest_199 (Nat.le_of_ble_eq_true rfl) (Nat.le_of_ble_eq_true rfl)) [0, 1, 2] [] rfl rfl (by decide) (by decide) rfl rfl (fun u_185 h_186 => ?_)
  obtain ⟨o_187, eu_185⟩ : ∃ z, z = u_185 := ⟨_, rfl⟩; subst eu_185
  have e_188 : o_187 = mx S o_179 232 ((1 + 4 * (S 232).toInt.toNat)) := h_186
  refine sw_eq (ws' := [(h0, .inr (10, [.ref b0, .ref b1, .int np, .int 0, .long o_187])), (b0, .inl (G.2.1.2, 344, .inr (.inl S))), (b1, .inl (G.2.1.2, 1032, .inr (.inl P)))]) (lv' := [(1, .int 4), (0, .ref h0)]) (st' := []) rfl rfl rfl ?_
  refine sw_aload_n (pc := 202) F dX10_digest_202 rfl 1 rfl ?_
  refine sw_sipush (pc := 203) (v := 253) F dX10_digest_203 rfl ?_
  refine sw_lconst (pc := 206) (v := 1) F dX10_digest_206 rfl ?_
  refine sw_ldc2 (pc := 207) (v := 3) F (List.mem_of_getElem? (i := 8) rfl) dX10_digest_207 ?_
  refine sw_aload_n (pc := 210) F dX10_digest_210 rfl 1 rfl ?_
  refine sw_get (pc := 211) (Cn := RX10) (T := TX10) (N := 5) (ci := 10) (v := .ref b0) F in10 0 rfl rfl 0 (by decide) rfl (List.mem_of_getElem? (i := 6) rfl) rfl dX10_digest_211 ?_
  refine sw_sipush (pc := 214) (v := 253) F dX10_digest_214 rfl ?_
  refine sw_lald (pc := 217) F 1 rfl (sw_in rfl) dX10_digest_217 ?_
  refine sw_naml (e := S 253) rfl (fun x_189 ex_189 => ?_)
  refine sw_lmul (pc := 218) F dX10_digest_218 ?_
  refine sw_topl (fun x_190 ex_190 => ?_)
  refine sw_ladd (pc := 219) F dX10_digest_219 ?_
  refine sw_topl (fun x_191 ex_191 => ?_)
  refine sw_callv (pc := 220) (wr := []) (k' := 0) (n' := 0) F (sw_runV (R := ({ frames := 3, cells := 0, slots := 0, locals := 71 } : Room)) (q0 := 0) (na := 2) F T.2.1 T.2.2.1 (k_X10_mixes l G h0 b0 b1 np 0 o_187 S P 253 253 x_191 ((1 + 3 * (S 253).toInt.toNat)) rfl (by subst_vars; exact dg_m he.1) (by omega)) [0, 1, 2] rfl (by decide) gX10_digest_X10_mixes rfl rfl rfl (by decide +kernel) ⟨Nat.le_of_ble_eq_true rfl, Nat.le_of_ble_eq_true rfl⟩ rfl rfl rfl rfl rfl (Nat.le_of_ble_eq_true rfl) dX10_digest_220 (Nat.le_of_ble_eq_true rfl) (Nat.le_of_ble_eq_true rfl)) [0, 1, 2] [] rfl rfl (by decide) (by decide) rfl rfl (fun u_193 h_194 => ?_)
  obtain ⟨o_195, eu_193⟩ : ∃ z, z = u_193 := ⟨_, rfl⟩; subst eu_193
  have e_196 : o_195 = mx S o_187 253 ((1 + 3 * (S 253).toInt.toNat)) := h_194
  refine sw_eq (ws' := [(h0, .inr (10, [.ref b0, .ref b1, .int np, .int 0, .long o_195])), (b0, .inl (G.2.1.2, 344, .inr (.inl S))), (b1, .inl (G.2.1.2, 1032, .inr (.inl P)))]) (lv' := [(1, .int 4), (0, .ref h0)]) (st' := []) rfl rfl rfl ?_
  refine sw_aload_n (pc := 223) F dX10_digest_223 rfl 1 rfl ?_
  refine sw_get (pc := 224) (Cn := RX10) (T := TX10) (N := 5) (ci := 10) (v := .long o_195) F in10 0 rfl rfl 4 (by decide) rfl (List.mem_of_getElem? (i := 3) rfl) rfl dX10_digest_224 ?_
  subst e_196
  subst ex_191
  subst ex_190
  subst ex_189
  subst e_188
  subst ex_183
  subst ex_182
  subst ex_181
  subst e_180
  subst ex_175
  subst ex_174
  subst ex_173
  subst e_172
  subst ex_167
  subst e_166
  subst e_161
  subst e_157
  subst e_152
  subst e_148
  subst e_143
  subst e_139
  subst e_134
  subst e_130
  subst e_125
  subst e_120
  subst e_116
  subst e_111
  subst e_106
  subst ex_101
  subst e_100
  subst ex_95
  subst e_94
  subst ex_89
  subst e_88
  subst ex_83
  subst e_82
  subst ex_77
  subst e_76
  subst ex_71
  subst e_70
  subst ex_65
  subst e_64
  subst ex_59
  subst e_58
  subst ex_53
  subst e_52
  subst ex_47
  subst e_46
  subst ex_41
  subst e_40
  subst ex_35
  subst e_34
  subst ex_29
  subst e_28
  subst ex_23
  subst e_22
  subst ex_17
  subst e_16
  subst ex_11
  subst e_10
  subst e_5
  exact sw_lret (pc := 227) F T ((mx S (mx S (mx S (f_X10_mix_o0_4 (f_X10_mix_o0_4 (f_X10_mix_o0_4 (f_X10_mix_o0_4 (f_X10_mix_o0_4 (mx S (f_X10_mix_o0_4 (mx S (mx S (f_X10_mix_o0_4 (f_X10_mix_o0_4 (f_X10_mix_o0_4 (f_X10_mix_o0_4 (f_X10_mix_o0_4 (f_X10_mix_o0_4 (f_X10_mix_o0_4 (f_X10_mix_o0_4 (f_X10_mix_o0_4 (f_X10_mix_o0_4 (f_X10_mix_o0_4 (f_X10_mix_o0_4 (f_X10_mix_o0_4 (f_X10_mix_o0_4 (f_X10_mix_o0_4 (f_X10_mix_o0_4 (mx S (f_X10_mix_o0_4 19735 np.toInt64) 0 6) (S 6)) (S 10)) (S 14)) (S 18)) (S 7)) (S 11)) (S 15)) (S 19)) (S 8)) (S 12)) (S 16)) (S 20)) (S 9)) (S 13)) (S 17)) (S 21)) 26 11) 37 3) (f_X10_densityNow_r S)) 40 2) (f_X10_totalOf_0_r S)) (f_X10_totalOf_1_r S)) (f_X10_totalOf_2_r S)) (f_X10_totalOf_3_r S)) (S 49)) 63 ((1 + 7 * (S 63).toInt.toNat))) 232 ((1 + 4 * (S 232).toInt.toNat))) 253 ((1 + 3 * (S 253).toInt.toNat)))) ⟨rfl, rfl⟩ rfl dX10_digest_227
set_option maxHeartbeats 4000000 in
set_option maxRecDepth 100000 in
theorem k_X10_undo (l : Launch) (G : sw_E) (h0 : Nat) (b0 : Nat) (b1 : Nat) (np : Int32) (th : Int32) (hh : Int64) (S : Nat → Int64) (P : Nat → Int64) (Nq : Nat) (hnp : np = nI (Nq + 1)) (hNq : Nq < 3) : sw_M l G yX10_undo wsX10_undo ({ frames := 1, cells := 0, slots := 0, locals := 22 } : Room) [.ref h0] [(h0, .inr (10, [.ref b0, .ref b1, .int np, .int th, .long hh])), (b0, .inl (G.2.1.2, 344, .inr (.inl S))), (b1, .inl (G.2.1.2, 1032, .inr (.inl P)))] (sw_QI G (S := Int32 × Int32 × (Nat → Int64)) (fun (r : Int32) (u : Int32 × Int32 × (Nat → Int64)) => r = nI Nq ∧ u.1 = nI Nq ∧ u.2.1 = 0 ∧ u.2.2 = md_u (344 * Nq) 344 S P) (fun u => [(h0, .inr (10, [.ref b0, .ref b1, .int u.1, .int u.2.1, .long hh])), (b0, .inl (G.2.1.2, 344, .inr (.inl u.2.2))), (b1, .inl (G.2.1.2, 1032, .inr (.inl P)))])) 0 0 := by
  refine sw_start (cc := cX10_undo) (maxL := 2) (ret := some .int) (lv := [(0, .ref h0)]) (own := RX10) (nm := "undo") (by decide +kernel) rfl rfl rfl rfl (Nat.le_of_ble_eq_true rfl) (fun C F T => ?_)
  have in10 : ∀ w ∈ u_ws RX10 TX10 5, w ∈ wsX10_undo := fun w h => List.mem_cons_of_mem _ (List.mem_append_right _ (h))
  obtain ⟨np2, h2⟩ : ∃ z, z = nI Nq := ⟨_, rfl⟩
  have loop : ∀ (m n : Nat), m + n = 344 → SW G C 0 0 [(h0, .inr (10, [.ref b0, .ref b1, .int np2, .int th, .long hh])), (b0, .inl (G.2.1.2, 344, .inr (.inl (md_u (344 * Nq) n S P)))), (b1, .inl (G.2.1.2, 1032, .inr (.inl P)))] [(1, .int (nI n)), (0, .ref h0)] 25 [] := by
    intro m
    induction m with
    | zero =>
      intro n hn
      refine sw_iload_n (pc := 25) F dX10_undo_25 rfl 0 rfl ?_
      refine sw_sipush (pc := 26) (v := 344) F dX10_undo_26 rfl ?_
      refine sw_icmp_ge (pc := 29) (tgt := 59) F dX10_undo_29 (by decide) (fun _ => ?_) (fun c => absurd (nI_le (a := 344) (b := n) (by omega) (by omega)) c)
      refine sw_aload_n (pc := 59) F dX10_undo_59 rfl 1 rfl ?_
      refine sw_aload_n (pc := 60) F dX10_undo_60 rfl 1 rfl ?_
      refine sw_get (pc := 61) (Cn := RX10) (T := TX10) (N := 5) (ci := 10) (v := .int np2) F in10 0 rfl rfl 2 (by decide) rfl (List.mem_of_getElem? (i := 1) rfl) rfl dX10_undo_61 ?_
      refine sw_i2l (pc := 64) F dX10_undo_64 rfl ?_
      refine sw_calli (pc := 65) (wr := []) (k' := 0) (n' := 0) F (sw_runV (R := ({ frames := 1, cells := 0, slots := 0, locals := 22 } : Room)) (q0 := 0) (na := 1) F T.2.1 T.2.2.1 (k_X10_tells l G h0 b0 b1 np2 th hh (md_u (344 * Nq) n S P) P np2.toInt64) [0, 1, 2] rfl (by decide) gX10_undo_X10_tells rfl rfl rfl (by decide +kernel) ⟨Nat.le_of_ble_eq_true rfl, Nat.le_of_ble_eq_true rfl⟩ rfl rfl rfl rfl rfl (Nat.le_of_ble_eq_true rfl) dX10_undo_65 (Nat.le_of_ble_eq_true rfl) (Nat.le_of_ble_eq_true rfl)) [0, 1, 2] [] rfl rfl (by decide) (by decide) rfl rfl (fun r_1 u_2 h_3 => ?_)
      have e_4 : r_1 = f_X10_tells_r np2.toInt64 := h_3
      refine sw_eq (ws' := [(h0, .inr (10, [.ref b0, .ref b1, .int np2, .int 0, .long hh])), (b0, .inl (G.2.1.2, 344, .inr (.inl ((md_u (344 * Nq) n S P))))), (b1, .inl (G.2.1.2, 1032, .inr (.inl P)))]) (lv' := [(1, .int (nI n)), (0, .ref h0)]) (st' := [.int r_1]) rfl rfl rfl ?_
      subst e_4
      obtain rfl : n = 344 := by omega
      exact sw_iret (pc := 68) F T rfl rfl (nI Nq, 0, md_u (344 * Nq) 344 S P) ⟨by rw [h2, nI_l (by omega)]; exact lN_i Nq, rfl, rfl, rfl⟩ (by rw [h2]) dX10_undo_68
    | succ m ih =>
      intro n hn
      obtain ⟨k, hk⟩ : ∃ z, z = nI n := ⟨_, rfl⟩
      rw [← hk]
      refine sw_iload_n (pc := 25) F dX10_undo_25 rfl 0 rfl ?_
      refine sw_sipush (pc := 26) (v := 344) F dX10_undo_26 rfl ?_
      refine sw_icmp_ge (pc := 29) (tgt := 59) F dX10_undo_29 (by decide) (fun c => absurd c (by rw [hk]; exact nI_ge (a := n) (b := 344) (by omega) (by omega))) (fun _ => ?_)
      refine sw_aload_n (pc := 32) F dX10_undo_32 rfl 1 rfl ?_
      refine sw_get (pc := 33) (Cn := RX10) (T := TX10) (N := 5) (ci := 10) (v := .ref b0) F in10 0 rfl rfl 0 (by decide) rfl (List.mem_of_getElem? (i := 2) rfl) rfl dX10_undo_33 ?_
      refine sw_iload_n (pc := 36) F dX10_undo_36 rfl 0 rfl ?_
      refine sw_aload_n (pc := 37) F dX10_undo_37 rfl 1 rfl ?_
      refine sw_get (pc := 38) (Cn := RX10) (T := TX10) (N := 5) (ci := 10) (v := .ref b1) F in10 0 rfl rfl 1 (by decide) rfl (List.mem_of_getElem? (i := 3) rfl) rfl dX10_undo_38 ?_
      refine sw_sipush (pc := 41) (v := 344) F dX10_undo_41 rfl ?_
      refine sw_aload_n (pc := 44) F dX10_undo_44 rfl 1 rfl ?_
      refine sw_get (pc := 45) (Cn := RX10) (T := TX10) (N := 5) (ci := 10) (v := .int np2) F in10 0 rfl rfl 2 (by decide) rfl (List.mem_of_getElem? (i := 1) rfl) rfl dX10_undo_45 ?_
      refine sw_imul (pc := 48) F dX10_undo_48 ?_
      refine sw_topi (fun x_5 ex_5 => ?_)
      have ix_5 : x_5 = nI (344 * Nq) := by rw [ex_5, h2]; exact pk_mul 344 Nq
      refine sw_iload_n (pc := 49) F dX10_undo_49 rfl 0 rfl ?_
      refine sw_iadd (pc := 50) F dX10_undo_50 ?_
      refine sw_topi (fun x_6 ex_6 => ?_)
      have ix_6 : x_6 = nI ((344 * Nq) + n) := by rw [ex_6, ix_5, hk]; exact nI_add (344 * Nq) n
      refine sw_lald (pc := 51) F 2 rfl (by rw [ix_6]; exact vp_in_nI (by omega) (by decide)) dX10_undo_51 ?_
      refine sw_naml (e := P ((344 * Nq) + n)) (by rw [(show x_6.toNatClampNeg = (344 * Nq) + n by rw [ix_6]; exact nI_clamp (by omega))]) (fun x_7 ex_7 => ?_)
      obtain ⟨f_8, ef_8⟩ : ∃ y : Nat → Int64, y = vp_updL (md_u (344 * Nq) n S P) n x_7 := ⟨_, rfl⟩
      refine sw_last (pc := 52) (ws' := [(h0, .inr (10, [.ref b0, .ref b1, .int np2, .int th, .long hh])), (b0, .inl (G.2.1.2, 344, .inr (.inl f_8))), (b1, .inl (G.2.1.2, 1032, .inr (.inl P)))]) F 1 rfl (by rw [hk]; exact vp_in_nI (by omega) (by decide)) dX10_undo_52 (by rw [ef_8, (show k.toNatClampNeg = n by rw [hk]; exact nI_clamp (by omega))]; rfl) ?_
      obtain ⟨x_9, ex_9⟩ : ∃ y : Int32, y = k + 1 := ⟨_, rfl⟩
      refine sw_iinc (pc := 53) (v := x_9) (lv' := [(1, .int x_9), (0, .ref h0)]) F T.1 dX10_undo_53 (q := 0) rfl ex_9.symm (by decide) rfl ?_
      refine sw_goto (pc := 56) (tgt := 25) F dX10_undo_56 (by decide) ?_
      refine sw_lvs (is := [0, 1]) (lv' := [(1, .int x_9), (0, .ref h0)]) rfl ?_
      subst ex_9
      subst ef_8
      subst ex_7
      subst ex_6
      subst ex_5
      refine sw_eq (ws' := [(h0, .inr (10, [.ref b0, .ref b1, .int np2, .int th, .long hh])), (b0, .inl (G.2.1.2, 344, .inr (.inl (md_u (344 * Nq) (n + 1) S P)))), (b1, .inl (G.2.1.2, 1032, .inr (.inl P)))]) (lv' := [(1, .int (nI (n + 1))), (0, .ref h0)]) (by rw [← md_u_s (344 * Nq) n S P]) (by rw [hk, nI_1]) rfl ?_
      exact ih (n + 1) (by omega)
  refine sw_aload_n (pc := 0) F dX10_undo_0 rfl 0 rfl ?_
  refine sw_get (pc := 1) (Cn := RX10) (T := TX10) (N := 5) (ci := 10) (v := .int np) F in10 0 rfl rfl 2 (by decide) rfl (List.mem_of_getElem? (i := 1) rfl) rfl dX10_undo_1 ?_
  refine sw_if_ne (pc := 4) (tgt := 13) F dX10_undo_4 (by decide) (fun _ => ?_) (fun c => absurd c (by rw [hnp]; intro z; exact absurd ((nI_eq (a := Nq + 1) (b := 0) (by omega) (by decide)).mp z) (by omega)))
  refine sw_aload_n (pc := 13) F dX10_undo_13 rfl 0 rfl ?_
  refine sw_dup (pc := 14) F dX10_undo_14 rfl ?_
  refine sw_get (pc := 15) (Cn := RX10) (T := TX10) (N := 5) (ci := 10) (v := .int np) F in10 0 rfl rfl 2 (by decide) rfl (List.mem_of_getElem? (i := 1) rfl) rfl dX10_undo_15 ?_
  refine sw_iconst (pc := 18) (v := 1) F dX10_undo_18 rfl ?_
  refine sw_isub (pc := 19) F dX10_undo_19 ?_
  refine sw_topi (fun x_10 ex_10 => ?_)
  have ix_10 : x_10 = nI ((Nq + 1) - 1) := by rw [ex_10, hnp]; exact pk_sub (a := Nq + 1) (b := 1) (by omega)
  refine sw_put (pc := 20) (Cn := RX10) (T := TX10) (N := 5) (ci := 10) (ty0 := tyX10) (ws' := [(h0, .inr (10, [.ref b0, .ref b1, .int x_10, .int th, .long hh])), (b0, .inl (G.2.1.2, 344, .inr (.inl S))), (b1, .inl (G.2.1.2, 1032, .inr (.inl P)))]) F in10 tyX10_ok nmX10 0 rfl rfl 2 (by decide) rfl (List.mem_of_getElem? (i := 1) rfl) rfl rfl rfl (Nat.le_of_ble_eq_true rfl) dX10_undo_20 rfl ?_
  refine sw_iconst (pc := 23) (v := 0) F dX10_undo_23 rfl ?_
  refine sw_istore_n (pc := 24) (lv' := [(1, .int 0), (0, .ref h0)]) F T.1 dX10_undo_24 rfl (by decide) rfl ?_
  refine sw_lvs (is := [0, 1]) (lv' := [(1, .int 0), (0, .ref h0)]) rfl ?_
  subst ex_10
  refine sw_eq (ws' := [(h0, .inr (10, [.ref b0, .ref b1, .int np2, .int th, .long hh])), (b0, .inl (G.2.1.2, 344, .inr (.inl (md_u (344 * Nq) 0 S P)))), (b1, .inl (G.2.1.2, 1032, .inr (.inl P)))]) (lv' := [(1, .int (nI 0)), (0, .ref h0)]) (by rw [h2, ← md_u_0, hnp, show nI (Nq + 1) - 1 = nI Nq from pk_sub (a := Nq + 1) (b := 1) (by omega)]) rfl rfl ?_
  exact loop 344 0 rfl
def f_X10_init_o1  : Nat → Int64 := (vp_updL (vp_updL (vp_updL (vp_updL (vp_updL (vp_updL (vp_updL (vp_updL (vp_updL (vp_updL (vp_updL (vp_updL (vp_updL (vp_updL (vp_updL (vp_updL (vp_updL (vp_updL (vp_updL (vp_updL (vp_updL (vp_updL (fun _ => 0) 2 1000) 6 2500) 7 25000) 8 10000) 9 2000) 14 13107) 15 13107) 16 13107) 17 13107) 21 (-500)) 26 10000) 27 10000) 28 10000) 29 10000) 30 10000) 31 10000) 32 10000) 33 10000) 34 10000) 35 10000) 36 10000) 41 1)
set_option maxHeartbeats 4000000 in
set_option maxRecDepth 100000 in
theorem k_X10_init (l : Launch) (G : sw_E) (h0 : Nat)  : sw_M l G yX10_init wsX10_init ({ frames := 1, cells := 2, slots := 1376, locals := 12 } : Room) [.ref h0] [(h0, .inr (10, [.null, .null, .int 0, .int 0, .long 0]))] (sw_QV G (S := Nat × Nat × (Nat → Int64)) (fun (u : Nat × Nat × (Nat → Int64)) => u.2.2 = f_X10_init_o1) (fun u => [(h0, .inr (10, [.ref u.1, .ref u.2.1, .int 0, .int 0, .long 0])), (u.1, .inl (G.2.1.2, 344, .inr (.inl u.2.2))), (u.2.1, .inl (G.2.1.2, 1032, .inr (.inl (fun _ => 0))))])) 2 1376 := by
  refine sw_start (cc := cX10_init) (maxL := 2) (ret := none) (lv := [(0, .ref h0)]) (own := RX10) (nm := "<init>") (by decide +kernel) rfl rfl rfl rfl (Nat.le_of_ble_eq_true rfl) (fun C F T => ?_)
  have in10 : ∀ w ∈ u_ws RX10 TX10 5, w ∈ wsX10_init := fun w h => List.mem_cons_of_mem _ (List.mem_append_right _ (h))
  refine sw_aload_n (pc := 0) F dX10_init_0 rfl 0 rfl ?_
  refine sw_objInit (pc := 1) (rm := ({ frames := 1, cells := 2, slots := 1376, locals := 12 } : Room)) F T.2.1 (List.mem_of_getElem? (i := 1) rfl) (List.mem_of_getElem? (i := 2) rfl) (List.mem_of_getElem? (i := 3) rfl) dX10_init_1 (Nat.le_of_ble_eq_true rfl) (Nat.le_of_ble_eq_true rfl) ?_
  refine sw_aload_n (pc := 4) F dX10_init_4 rfl 0 rfl ?_
  refine sw_sipush (pc := 5) (v := 344) F dX10_init_5 rfl ?_
  refine sw_newJ (pc := 8) (N := 344) (rm := ({ frames := 1, cells := 2, slots := 1376, locals := 12 } : Room)) (k' := 1) (n' := 344) F T.2.1 (List.mem_of_getElem? (i := 4) rfl) (by decide) rfl (by decide) rfl rfl (Nat.le_of_ble_eq_true rfl) (Nat.le_of_ble_eq_true rfl) dX10_init_8 (fun q_1 => ?_)
  refine sw_eq (ws' := [(h0, .inr (10, [.null, .null, .int 0, .int 0, .long 0])), (q_1, .inl (G.2.1.2, 344, .inr (.inl (fun _ => 0))))]) rfl rfl rfl ?_
  refine sw_putF (pc := 10) (Cn := RX10) (T := TX10) (N := 5) (ci := 10) (ty0 := tyX10) (ws' := [(h0, .inr (10, [.ref q_1, .null, .int 0, .int 0, .long 0])), (q_1, .inl (G.2.1.2, 344, .inr (.inl (fun _ => 0))))]) F (T.2.2.2.2.1) in10 tyX10_ok nmX10 0 rfl rfl 0 (by decide) rfl (List.mem_of_getElem? (i := 5) rfl) rfl rfl rfl (Nat.le_of_ble_eq_true rfl) dX10_init_10 rfl ?_
  refine sw_aload_n (pc := 13) F dX10_init_13 rfl 0 rfl ?_
  refine sw_sipush (pc := 14) (v := 1032) F dX10_init_14 rfl ?_
  refine sw_newJ (pc := 17) (N := 1032) (rm := ({ frames := 1, cells := 2, slots := 1376, locals := 12 } : Room)) (k' := 2) (n' := 1376) F T.2.1 (List.mem_of_getElem? (i := 4) rfl) (by decide) rfl (by decide) rfl rfl (Nat.le_of_ble_eq_true rfl) (Nat.le_of_ble_eq_true rfl) dX10_init_17 (fun q_2 => ?_)
  refine sw_eq (ws' := [(h0, .inr (10, [.ref q_1, .null, .int 0, .int 0, .long 0])), (q_1, .inl (G.2.1.2, 344, .inr (.inl (fun _ => 0)))), (q_2, .inl (G.2.1.2, 1032, .inr (.inl (fun _ => 0))))]) rfl rfl rfl ?_
  refine sw_putF (pc := 19) (Cn := RX10) (T := TX10) (N := 5) (ci := 10) (ty0 := tyX10) (ws' := [(h0, .inr (10, [.ref q_1, .ref q_2, .int 0, .int 0, .long 0])), (q_1, .inl (G.2.1.2, 344, .inr (.inl (fun _ => 0)))), (q_2, .inl (G.2.1.2, 1032, .inr (.inl (fun _ => 0))))]) F (T.2.2.2.2.1) in10 tyX10_ok nmX10 0 rfl rfl 1 (by decide) rfl (List.mem_of_getElem? (i := 6) rfl) rfl rfl rfl (Nat.le_of_ble_eq_true rfl) dX10_init_19 rfl ?_
  refine sw_aload_n (pc := 22) F dX10_init_22 rfl 0 rfl ?_
  refine sw_get (pc := 23) (Cn := RX10) (T := TX10) (N := 5) (ci := 10) (v := .ref q_1) F in10 0 rfl rfl 0 (by decide) rfl (List.mem_of_getElem? (i := 5) rfl) rfl dX10_init_23 ?_
  refine sw_iconst (pc := 26) (v := 2) F dX10_init_26 rfl ?_
  refine sw_ldc2 (pc := 27) (v := 1000) F (List.mem_of_getElem? (i := 7) rfl) dX10_init_27 ?_
  obtain ⟨f_3, ef_3⟩ : ∃ y : Nat → Int64, y = vp_updL (fun _ => 0) 2 1000 := ⟨_, rfl⟩
  refine sw_last (pc := 30) (ws' := [(h0, .inr (10, [.ref q_1, .ref q_2, .int 0, .int 0, .long 0])), (q_1, .inl (G.2.1.2, 344, .inr (.inl f_3))), (q_2, .inl (G.2.1.2, 1032, .inr (.inl (fun _ => 0))))]) F 1 rfl (sw_in rfl) dX10_init_30 (by rw [ef_3]; rfl) ?_
  refine sw_aload_n (pc := 31) F dX10_init_31 rfl 0 rfl ?_
  refine sw_get (pc := 32) (Cn := RX10) (T := TX10) (N := 5) (ci := 10) (v := .ref q_1) F in10 0 rfl rfl 0 (by decide) rfl (List.mem_of_getElem? (i := 5) rfl) rfl dX10_init_32 ?_
  refine sw_bipush (pc := 35) (v := 6) F dX10_init_35 rfl ?_
  refine sw_ldc2 (pc := 37) (v := 2500) F (List.mem_of_getElem? (i := 8) rfl) dX10_init_37 ?_
  obtain ⟨f_4, ef_4⟩ : ∃ y : Nat → Int64, y = vp_updL f_3 6 2500 := ⟨_, rfl⟩
  refine sw_last (pc := 40) (ws' := [(h0, .inr (10, [.ref q_1, .ref q_2, .int 0, .int 0, .long 0])), (q_1, .inl (G.2.1.2, 344, .inr (.inl f_4))), (q_2, .inl (G.2.1.2, 1032, .inr (.inl (fun _ => 0))))]) F 1 rfl (sw_in rfl) dX10_init_40 (by rw [ef_4]; rfl) ?_
  refine sw_aload_n (pc := 41) F dX10_init_41 rfl 0 rfl ?_
  refine sw_get (pc := 42) (Cn := RX10) (T := TX10) (N := 5) (ci := 10) (v := .ref q_1) F in10 0 rfl rfl 0 (by decide) rfl (List.mem_of_getElem? (i := 5) rfl) rfl dX10_init_42 ?_
  refine sw_bipush (pc := 45) (v := 7) F dX10_init_45 rfl ?_
  refine sw_ldc2 (pc := 47) (v := 25000) F (List.mem_of_getElem? (i := 9) rfl) dX10_init_47 ?_
  obtain ⟨f_5, ef_5⟩ : ∃ y : Nat → Int64, y = vp_updL f_4 7 25000 := ⟨_, rfl⟩
  refine sw_last (pc := 50) (ws' := [(h0, .inr (10, [.ref q_1, .ref q_2, .int 0, .int 0, .long 0])), (q_1, .inl (G.2.1.2, 344, .inr (.inl f_5))), (q_2, .inl (G.2.1.2, 1032, .inr (.inl (fun _ => 0))))]) F 1 rfl (sw_in rfl) dX10_init_50 (by rw [ef_5]; rfl) ?_
  refine sw_aload_n (pc := 51) F dX10_init_51 rfl 0 rfl ?_
  refine sw_get (pc := 52) (Cn := RX10) (T := TX10) (N := 5) (ci := 10) (v := .ref q_1) F in10 0 rfl rfl 0 (by decide) rfl (List.mem_of_getElem? (i := 5) rfl) rfl dX10_init_52 ?_
  refine sw_bipush (pc := 55) (v := 8) F dX10_init_55 rfl ?_
  refine sw_ldc2 (pc := 57) (v := 10000) F (List.mem_of_getElem? (i := 10) rfl) dX10_init_57 ?_
  obtain ⟨f_6, ef_6⟩ : ∃ y : Nat → Int64, y = vp_updL f_5 8 10000 := ⟨_, rfl⟩
  refine sw_last (pc := 60) (ws' := [(h0, .inr (10, [.ref q_1, .ref q_2, .int 0, .int 0, .long 0])), (q_1, .inl (G.2.1.2, 344, .inr (.inl f_6))), (q_2, .inl (G.2.1.2, 1032, .inr (.inl (fun _ => 0))))]) F 1 rfl (sw_in rfl) dX10_init_60 (by rw [ef_6]; rfl) ?_
  refine sw_aload_n (pc := 61) F dX10_init_61 rfl 0 rfl ?_
  refine sw_get (pc := 62) (Cn := RX10) (T := TX10) (N := 5) (ci := 10) (v := .ref q_1) F in10 0 rfl rfl 0 (by decide) rfl (List.mem_of_getElem? (i := 5) rfl) rfl dX10_init_62 ?_
  refine sw_bipush (pc := 65) (v := 9) F dX10_init_65 rfl ?_
  refine sw_ldc2 (pc := 67) (v := 2000) F (List.mem_of_getElem? (i := 11) rfl) dX10_init_67 ?_
  obtain ⟨f_7, ef_7⟩ : ∃ y : Nat → Int64, y = vp_updL f_6 9 2000 := ⟨_, rfl⟩
  refine sw_last (pc := 70) (ws' := [(h0, .inr (10, [.ref q_1, .ref q_2, .int 0, .int 0, .long 0])), (q_1, .inl (G.2.1.2, 344, .inr (.inl f_7))), (q_2, .inl (G.2.1.2, 1032, .inr (.inl (fun _ => 0))))]) F 1 rfl (sw_in rfl) dX10_init_70 (by rw [ef_7]; rfl) ?_
  refine sw_iconst (pc := 71) (v := 0) F dX10_init_71 rfl ?_
  refine sw_istore_n (pc := 72) (lv' := [(1, .int 0), (0, .ref h0)]) F T.1 dX10_init_72 rfl (by decide) rfl ?_
  refine sw_iload_n (pc := 73) F dX10_init_73 rfl 0 rfl ?_
  refine sw_iconst (pc := 74) (v := 4) F dX10_init_74 rfl ?_
  refine sw_icmp_ge (pc := 75) (tgt := 96) F dX10_init_75 (by decide) (fun c => absurd c (by decide)) (fun _ => ?_)
  refine sw_aload_n (pc := 78) F dX10_init_78 rfl 1 rfl ?_
  refine sw_get (pc := 79) (Cn := RX10) (T := TX10) (N := 5) (ci := 10) (v := .ref q_1) F in10 0 rfl rfl 0 (by decide) rfl (List.mem_of_getElem? (i := 5) rfl) rfl dX10_init_79 ?_
  refine sw_bipush (pc := 82) (v := 14) F dX10_init_82 rfl ?_
  refine sw_iload_n (pc := 84) F dX10_init_84 rfl 0 rfl ?_
  refine sw_iadd (pc := 85) F dX10_init_85 ?_
  refine sw_eqt (v := .int 14) (by rfl) ?_
  refine sw_ldc2 (pc := 86) (v := 13107) F (List.mem_of_getElem? (i := 12) rfl) dX10_init_86 ?_
  obtain ⟨f_8, ef_8⟩ : ∃ y : Nat → Int64, y = vp_updL f_7 14 13107 := ⟨_, rfl⟩
  refine sw_last (pc := 89) (ws' := [(h0, .inr (10, [.ref q_1, .ref q_2, .int 0, .int 0, .long 0])), (q_1, .inl (G.2.1.2, 344, .inr (.inl f_8))), (q_2, .inl (G.2.1.2, 1032, .inr (.inl (fun _ => 0))))]) F 1 rfl (sw_in rfl) dX10_init_89 (by rw [ef_8]; rfl) ?_
  refine sw_iinc (pc := 90) (v := 1) (lv' := [(1, .int 1), (0, .ref h0)]) F T.1 dX10_init_90 (q := 0) rfl rfl (by decide) rfl ?_
  refine sw_goto (pc := 93) (tgt := 73) F dX10_init_93 (by decide) ?_
  refine sw_iload_n (pc := 73) F dX10_init_73 rfl 0 rfl ?_
  refine sw_iconst (pc := 74) (v := 4) F dX10_init_74 rfl ?_
  refine sw_icmp_ge (pc := 75) (tgt := 96) F dX10_init_75 (by decide) (fun c => absurd c (by decide)) (fun _ => ?_)
  refine sw_aload_n (pc := 78) F dX10_init_78 rfl 1 rfl ?_
  refine sw_get (pc := 79) (Cn := RX10) (T := TX10) (N := 5) (ci := 10) (v := .ref q_1) F in10 0 rfl rfl 0 (by decide) rfl (List.mem_of_getElem? (i := 5) rfl) rfl dX10_init_79 ?_
  refine sw_bipush (pc := 82) (v := 14) F dX10_init_82 rfl ?_
  refine sw_iload_n (pc := 84) F dX10_init_84 rfl 0 rfl ?_
  refine sw_iadd (pc := 85) F dX10_init_85 ?_
  refine sw_eqt (v := .int 15) (by rfl) ?_
  refine sw_ldc2 (pc := 86) (v := 13107) F (List.mem_of_getElem? (i := 12) rfl) dX10_init_86 ?_
  obtain ⟨f_9, ef_9⟩ : ∃ y : Nat → Int64, y = vp_updL f_8 15 13107 := ⟨_, rfl⟩
  refine sw_last (pc := 89) (ws' := [(h0, .inr (10, [.ref q_1, .ref q_2, .int 0, .int 0, .long 0])), (q_1, .inl (G.2.1.2, 344, .inr (.inl f_9))), (q_2, .inl (G.2.1.2, 1032, .inr (.inl (fun _ => 0))))]) F 1 rfl (sw_in rfl) dX10_init_89 (by rw [ef_9]; rfl) ?_
  refine sw_iinc (pc := 90) (v := 2) (lv' := [(1, .int 2), (0, .ref h0)]) F T.1 dX10_init_90 (q := 0) rfl rfl (by decide) rfl ?_
  refine sw_goto (pc := 93) (tgt := 73) F dX10_init_93 (by decide) ?_
  refine sw_iload_n (pc := 73) F dX10_init_73 rfl 0 rfl ?_
  refine sw_iconst (pc := 74) (v := 4) F dX10_init_74 rfl ?_
  refine sw_icmp_ge (pc := 75) (tgt := 96) F dX10_init_75 (by decide) (fun c => absurd c (by decide)) (fun _ => ?_)
  refine sw_aload_n (pc := 78) F dX10_init_78 rfl 1 rfl ?_
  refine sw_get (pc := 79) (Cn := RX10) (T := TX10) (N := 5) (ci := 10) (v := .ref q_1) F in10 0 rfl rfl 0 (by decide) rfl (List.mem_of_getElem? (i := 5) rfl) rfl dX10_init_79 ?_
  refine sw_bipush (pc := 82) (v := 14) F dX10_init_82 rfl ?_
  refine sw_iload_n (pc := 84) F dX10_init_84 rfl 0 rfl ?_
  refine sw_iadd (pc := 85) F dX10_init_85 ?_
  refine sw_eqt (v := .int 16) (by rfl) ?_
  refine sw_ldc2 (pc := 86) (v := 13107) F (List.mem_of_getElem? (i := 12) rfl) dX10_init_86 ?_
  obtain ⟨f_10, ef_10⟩ : ∃ y : Nat → Int64, y = vp_updL f_9 16 13107 := ⟨_, rfl⟩
  refine sw_last (pc := 89) (ws' := [(h0, .inr (10, [.ref q_1, .ref q_2, .int 0, .int 0, .long 0])), (q_1, .inl (G.2.1.2, 344, .inr (.inl f_10))), (q_2, .inl (G.2.1.2, 1032, .inr (.inl (fun _ => 0))))]) F 1 rfl (sw_in rfl) dX10_init_89 (by rw [ef_10]; rfl) ?_
  refine sw_iinc (pc := 90) (v := 3) (lv' := [(1, .int 3), (0, .ref h0)]) F T.1 dX10_init_90 (q := 0) rfl rfl (by decide) rfl ?_
  refine sw_goto (pc := 93) (tgt := 73) F dX10_init_93 (by decide) ?_
  refine sw_iload_n (pc := 73) F dX10_init_73 rfl 0 rfl ?_
  refine sw_iconst (pc := 74) (v := 4) F dX10_init_74 rfl ?_
  refine sw_icmp_ge (pc := 75) (tgt := 96) F dX10_init_75 (by decide) (fun c => absurd c (by decide)) (fun _ => ?_)
  refine sw_aload_n (pc := 78) F dX10_init_78 rfl 1 rfl ?_
  refine sw_get (pc := 79) (Cn := RX10) (T := TX10) (N := 5) (ci := 10) (v := .ref q_1) F in10 0 rfl rfl 0 (by decide) rfl (List.mem_of_getElem? (i := 5) rfl) rfl dX10_init_79 ?_
  refine sw_bipush (pc := 82) (v := 14) F dX10_init_82 rfl ?_
  refine sw_iload_n (pc := 84) F dX10_init_84 rfl 0 rfl ?_
  refine sw_iadd (pc := 85) F dX10_init_85 ?_
  refine sw_eqt (v := .int 17) (by rfl) ?_
  refine sw_ldc2 (pc := 86) (v := 13107) F (List.mem_of_getElem? (i := 12) rfl) dX10_init_86 ?_
  obtain ⟨f_11, ef_11⟩ : ∃ y : Nat → Int64, y = vp_updL f_10 17 13107 := ⟨_, rfl⟩
  refine sw_last (pc := 89) (ws' := [(h0, .inr (10, [.ref q_1, .ref q_2, .int 0, .int 0, .long 0])), (q_1, .inl (G.2.1.2, 344, .inr (.inl f_11))), (q_2, .inl (G.2.1.2, 1032, .inr (.inl (fun _ => 0))))]) F 1 rfl (sw_in rfl) dX10_init_89 (by rw [ef_11]; rfl) ?_
  refine sw_iinc (pc := 90) (v := 4) (lv' := [(1, .int 4), (0, .ref h0)]) F T.1 dX10_init_90 (q := 0) rfl rfl (by decide) rfl ?_
  refine sw_goto (pc := 93) (tgt := 73) F dX10_init_93 (by decide) ?_
  refine sw_iload_n (pc := 73) F dX10_init_73 rfl 0 rfl ?_
  refine sw_iconst (pc := 74) (v := 4) F dX10_init_74 rfl ?_
  refine sw_icmp_ge (pc := 75) (tgt := 96) F dX10_init_75 (by decide) (fun _ => ?_) (fun c => absurd c (by decide))
  refine sw_aload_n (pc := 96) F dX10_init_96 rfl 1 rfl ?_
  refine sw_get (pc := 97) (Cn := RX10) (T := TX10) (N := 5) (ci := 10) (v := .ref q_1) F in10 0 rfl rfl 0 (by decide) rfl (List.mem_of_getElem? (i := 5) rfl) rfl dX10_init_97 ?_
  refine sw_bipush (pc := 100) (v := 21) F dX10_init_100 rfl ?_
  refine sw_ldc2 (pc := 102) (v := (-500)) F (List.mem_of_getElem? (i := 13) rfl) dX10_init_102 ?_
  obtain ⟨f_12, ef_12⟩ : ∃ y : Nat → Int64, y = vp_updL f_11 21 (-500) := ⟨_, rfl⟩
  refine sw_last (pc := 105) (ws' := [(h0, .inr (10, [.ref q_1, .ref q_2, .int 0, .int 0, .long 0])), (q_1, .inl (G.2.1.2, 344, .inr (.inl f_12))), (q_2, .inl (G.2.1.2, 1032, .inr (.inl (fun _ => 0))))]) F 1 rfl (sw_in rfl) dX10_init_105 (by rw [ef_12]; rfl) ?_
  refine sw_iconst (pc := 106) (v := 0) F dX10_init_106 rfl ?_
  refine sw_istore_n (pc := 107) (lv' := [(1, .int 0), (0, .ref h0)]) F T.1 dX10_init_107 rfl (by decide) rfl ?_
  refine sw_iload_n (pc := 108) F dX10_init_108 rfl 0 rfl ?_
  refine sw_bipush (pc := 109) (v := 11) F dX10_init_109 rfl ?_
  refine sw_icmp_ge (pc := 111) (tgt := 132) F dX10_init_111 (by decide) (fun c => absurd c (by decide)) (fun _ => ?_)
  refine sw_aload_n (pc := 114) F dX10_init_114 rfl 1 rfl ?_
  refine sw_get (pc := 115) (Cn := RX10) (T := TX10) (N := 5) (ci := 10) (v := .ref q_1) F in10 0 rfl rfl 0 (by decide) rfl (List.mem_of_getElem? (i := 5) rfl) rfl dX10_init_115 ?_
  refine sw_bipush (pc := 118) (v := 26) F dX10_init_118 rfl ?_
  refine sw_iload_n (pc := 120) F dX10_init_120 rfl 0 rfl ?_
  refine sw_iadd (pc := 121) F dX10_init_121 ?_
  refine sw_eqt (v := .int 26) (by rfl) ?_
  refine sw_ldc2 (pc := 122) (v := 10000) F (List.mem_of_getElem? (i := 10) rfl) dX10_init_122 ?_
  obtain ⟨f_13, ef_13⟩ : ∃ y : Nat → Int64, y = vp_updL f_12 26 10000 := ⟨_, rfl⟩
  refine sw_last (pc := 125) (ws' := [(h0, .inr (10, [.ref q_1, .ref q_2, .int 0, .int 0, .long 0])), (q_1, .inl (G.2.1.2, 344, .inr (.inl f_13))), (q_2, .inl (G.2.1.2, 1032, .inr (.inl (fun _ => 0))))]) F 1 rfl (sw_in rfl) dX10_init_125 (by rw [ef_13]; rfl) ?_
  refine sw_iinc (pc := 126) (v := 1) (lv' := [(1, .int 1), (0, .ref h0)]) F T.1 dX10_init_126 (q := 0) rfl rfl (by decide) rfl ?_
  refine sw_goto (pc := 129) (tgt := 108) F dX10_init_129 (by decide) ?_
  refine sw_iload_n (pc := 108) F dX10_init_108 rfl 0 rfl ?_
  refine sw_bipush (pc := 109) (v := 11) F dX10_init_109 rfl ?_
  refine sw_icmp_ge (pc := 111) (tgt := 132) F dX10_init_111 (by decide) (fun c => absurd c (by decide)) (fun _ => ?_)
  refine sw_aload_n (pc := 114) F dX10_init_114 rfl 1 rfl ?_
  refine sw_get (pc := 115) (Cn := RX10) (T := TX10) (N := 5) (ci := 10) (v := .ref q_1) F in10 0 rfl rfl 0 (by decide) rfl (List.mem_of_getElem? (i := 5) rfl) rfl dX10_init_115 ?_
  refine sw_bipush (pc := 118) (v := 26) F dX10_init_118 rfl ?_
  refine sw_iload_n (pc := 120) F dX10_init_120 rfl 0 rfl ?_
  refine sw_iadd (pc := 121) F dX10_init_121 ?_
  refine sw_eqt (v := .int 27) (by rfl) ?_
  refine sw_ldc2 (pc := 122) (v := 10000) F (List.mem_of_getElem? (i := 10) rfl) dX10_init_122 ?_
  obtain ⟨f_14, ef_14⟩ : ∃ y : Nat → Int64, y = vp_updL f_13 27 10000 := ⟨_, rfl⟩
  refine sw_last (pc := 125) (ws' := [(h0, .inr (10, [.ref q_1, .ref q_2, .int 0, .int 0, .long 0])), (q_1, .inl (G.2.1.2, 344, .inr (.inl f_14))), (q_2, .inl (G.2.1.2, 1032, .inr (.inl (fun _ => 0))))]) F 1 rfl (sw_in rfl) dX10_init_125 (by rw [ef_14]; rfl) ?_
  refine sw_iinc (pc := 126) (v := 2) (lv' := [(1, .int 2), (0, .ref h0)]) F T.1 dX10_init_126 (q := 0) rfl rfl (by decide) rfl ?_
  refine sw_goto (pc := 129) (tgt := 108) F dX10_init_129 (by decide) ?_
  refine sw_iload_n (pc := 108) F dX10_init_108 rfl 0 rfl ?_
  refine sw_bipush (pc := 109) (v := 11) F dX10_init_109 rfl ?_
  refine sw_icmp_ge (pc := 111) (tgt := 132) F dX10_init_111 (by decide) (fun c => absurd c (by decide)) (fun _ => ?_)
  refine sw_aload_n (pc := 114) F dX10_init_114 rfl 1 rfl ?_
  refine sw_get (pc := 115) (Cn := RX10) (T := TX10) (N := 5) (ci := 10) (v := .ref q_1) F in10 0 rfl rfl 0 (by decide) rfl (List.mem_of_getElem? (i := 5) rfl) rfl dX10_init_115 ?_
  refine sw_bipush (pc := 118) (v := 26) F dX10_init_118 rfl ?_
  refine sw_iload_n (pc := 120) F dX10_init_120 rfl 0 rfl ?_
  refine sw_iadd (pc := 121) F dX10_init_121 ?_
  refine sw_eqt (v := .int 28) (by rfl) ?_
  refine sw_ldc2 (pc := 122) (v := 10000) F (List.mem_of_getElem? (i := 10) rfl) dX10_init_122 ?_
  obtain ⟨f_15, ef_15⟩ : ∃ y : Nat → Int64, y = vp_updL f_14 28 10000 := ⟨_, rfl⟩
  refine sw_last (pc := 125) (ws' := [(h0, .inr (10, [.ref q_1, .ref q_2, .int 0, .int 0, .long 0])), (q_1, .inl (G.2.1.2, 344, .inr (.inl f_15))), (q_2, .inl (G.2.1.2, 1032, .inr (.inl (fun _ => 0))))]) F 1 rfl (sw_in rfl) dX10_init_125 (by rw [ef_15]; rfl) ?_
  refine sw_iinc (pc := 126) (v := 3) (lv' := [(1, .int 3), (0, .ref h0)]) F T.1 dX10_init_126 (q := 0) rfl rfl (by decide) rfl ?_
  refine sw_goto (pc := 129) (tgt := 108) F dX10_init_129 (by decide) ?_
  refine sw_iload_n (pc := 108) F dX10_init_108 rfl 0 rfl ?_
  refine sw_bipush (pc := 109) (v := 11) F dX10_init_109 rfl ?_
  refine sw_icmp_ge (pc := 111) (tgt := 132) F dX10_init_111 (by decide) (fun c => absurd c (by decide)) (fun _ => ?_)
  refine sw_aload_n (pc := 114) F dX10_init_114 rfl 1 rfl ?_
  refine sw_get (pc := 115) (Cn := RX10) (T := TX10) (N := 5) (ci := 10) (v := .ref q_1) F in10 0 rfl rfl 0 (by decide) rfl (List.mem_of_getElem? (i := 5) rfl) rfl dX10_init_115 ?_
  refine sw_bipush (pc := 118) (v := 26) F dX10_init_118 rfl ?_
  refine sw_iload_n (pc := 120) F dX10_init_120 rfl 0 rfl ?_
  refine sw_iadd (pc := 121) F dX10_init_121 ?_
  refine sw_eqt (v := .int 29) (by rfl) ?_
  refine sw_ldc2 (pc := 122) (v := 10000) F (List.mem_of_getElem? (i := 10) rfl) dX10_init_122 ?_
  obtain ⟨f_16, ef_16⟩ : ∃ y : Nat → Int64, y = vp_updL f_15 29 10000 := ⟨_, rfl⟩
  refine sw_last (pc := 125) (ws' := [(h0, .inr (10, [.ref q_1, .ref q_2, .int 0, .int 0, .long 0])), (q_1, .inl (G.2.1.2, 344, .inr (.inl f_16))), (q_2, .inl (G.2.1.2, 1032, .inr (.inl (fun _ => 0))))]) F 1 rfl (sw_in rfl) dX10_init_125 (by rw [ef_16]; rfl) ?_
  refine sw_iinc (pc := 126) (v := 4) (lv' := [(1, .int 4), (0, .ref h0)]) F T.1 dX10_init_126 (q := 0) rfl rfl (by decide) rfl ?_
  refine sw_goto (pc := 129) (tgt := 108) F dX10_init_129 (by decide) ?_
  refine sw_iload_n (pc := 108) F dX10_init_108 rfl 0 rfl ?_
  refine sw_bipush (pc := 109) (v := 11) F dX10_init_109 rfl ?_
  refine sw_icmp_ge (pc := 111) (tgt := 132) F dX10_init_111 (by decide) (fun c => absurd c (by decide)) (fun _ => ?_)
  refine sw_aload_n (pc := 114) F dX10_init_114 rfl 1 rfl ?_
  refine sw_get (pc := 115) (Cn := RX10) (T := TX10) (N := 5) (ci := 10) (v := .ref q_1) F in10 0 rfl rfl 0 (by decide) rfl (List.mem_of_getElem? (i := 5) rfl) rfl dX10_init_115 ?_
  refine sw_bipush (pc := 118) (v := 26) F dX10_init_118 rfl ?_
  refine sw_iload_n (pc := 120) F dX10_init_120 rfl 0 rfl ?_
  refine sw_iadd (pc := 121) F dX10_init_121 ?_
  refine sw_eqt (v := .int 30) (by rfl) ?_
  refine sw_ldc2 (pc := 122) (v := 10000) F (List.mem_of_getElem? (i := 10) rfl) dX10_init_122 ?_
  obtain ⟨f_17, ef_17⟩ : ∃ y : Nat → Int64, y = vp_updL f_16 30 10000 := ⟨_, rfl⟩
  refine sw_last (pc := 125) (ws' := [(h0, .inr (10, [.ref q_1, .ref q_2, .int 0, .int 0, .long 0])), (q_1, .inl (G.2.1.2, 344, .inr (.inl f_17))), (q_2, .inl (G.2.1.2, 1032, .inr (.inl (fun _ => 0))))]) F 1 rfl (sw_in rfl) dX10_init_125 (by rw [ef_17]; rfl) ?_
  refine sw_iinc (pc := 126) (v := 5) (lv' := [(1, .int 5), (0, .ref h0)]) F T.1 dX10_init_126 (q := 0) rfl rfl (by decide) rfl ?_
  refine sw_goto (pc := 129) (tgt := 108) F dX10_init_129 (by decide) ?_
  refine sw_iload_n (pc := 108) F dX10_init_108 rfl 0 rfl ?_
  refine sw_bipush (pc := 109) (v := 11) F dX10_init_109 rfl ?_
  refine sw_icmp_ge (pc := 111) (tgt := 132) F dX10_init_111 (by decide) (fun c => absurd c (by decide)) (fun _ => ?_)
  refine sw_aload_n (pc := 114) F dX10_init_114 rfl 1 rfl ?_
  refine sw_get (pc := 115) (Cn := RX10) (T := TX10) (N := 5) (ci := 10) (v := .ref q_1) F in10 0 rfl rfl 0 (by decide) rfl (List.mem_of_getElem? (i := 5) rfl) rfl dX10_init_115 ?_
  refine sw_bipush (pc := 118) (v := 26) F dX10_init_118 rfl ?_
  refine sw_iload_n (pc := 120) F dX10_init_120 rfl 0 rfl ?_
  refine sw_iadd (pc := 121) F dX10_init_121 ?_
  refine sw_eqt (v := .int 31) (by rfl) ?_
  refine sw_ldc2 (pc := 122) (v := 10000) F (List.mem_of_getElem? (i := 10) rfl) dX10_init_122 ?_
  obtain ⟨f_18, ef_18⟩ : ∃ y : Nat → Int64, y = vp_updL f_17 31 10000 := ⟨_, rfl⟩
  refine sw_last (pc := 125) (ws' := [(h0, .inr (10, [.ref q_1, .ref q_2, .int 0, .int 0, .long 0])), (q_1, .inl (G.2.1.2, 344, .inr (.inl f_18))), (q_2, .inl (G.2.1.2, 1032, .inr (.inl (fun _ => 0))))]) F 1 rfl (sw_in rfl) dX10_init_125 (by rw [ef_18]; rfl) ?_
  refine sw_iinc (pc := 126) (v := 6) (lv' := [(1, .int 6), (0, .ref h0)]) F T.1 dX10_init_126 (q := 0) rfl rfl (by decide) rfl ?_
  refine sw_goto (pc := 129) (tgt := 108) F dX10_init_129 (by decide) ?_
  refine sw_iload_n (pc := 108) F dX10_init_108 rfl 0 rfl ?_
  refine sw_bipush (pc := 109) (v := 11) F dX10_init_109 rfl ?_
  refine sw_icmp_ge (pc := 111) (tgt := 132) F dX10_init_111 (by decide) (fun c => absurd c (by decide)) (fun _ => ?_)
  refine sw_aload_n (pc := 114) F dX10_init_114 rfl 1 rfl ?_
  refine sw_get (pc := 115) (Cn := RX10) (T := TX10) (N := 5) (ci := 10) (v := .ref q_1) F in10 0 rfl rfl 0 (by decide) rfl (List.mem_of_getElem? (i := 5) rfl) rfl dX10_init_115 ?_
  refine sw_bipush (pc := 118) (v := 26) F dX10_init_118 rfl ?_
  refine sw_iload_n (pc := 120) F dX10_init_120 rfl 0 rfl ?_
  refine sw_iadd (pc := 121) F dX10_init_121 ?_
  refine sw_eqt (v := .int 32) (by rfl) ?_
  refine sw_ldc2 (pc := 122) (v := 10000) F (List.mem_of_getElem? (i := 10) rfl) dX10_init_122 ?_
  obtain ⟨f_19, ef_19⟩ : ∃ y : Nat → Int64, y = vp_updL f_18 32 10000 := ⟨_, rfl⟩
  refine sw_last (pc := 125) (ws' := [(h0, .inr (10, [.ref q_1, .ref q_2, .int 0, .int 0, .long 0])), (q_1, .inl (G.2.1.2, 344, .inr (.inl f_19))), (q_2, .inl (G.2.1.2, 1032, .inr (.inl (fun _ => 0))))]) F 1 rfl (sw_in rfl) dX10_init_125 (by rw [ef_19]; rfl) ?_
  refine sw_iinc (pc := 126) (v := 7) (lv' := [(1, .int 7), (0, .ref h0)]) F T.1 dX10_init_126 (q := 0) rfl rfl (by decide) rfl ?_
  refine sw_goto (pc := 129) (tgt := 108) F dX10_init_129 (by decide) ?_
  refine sw_iload_n (pc := 108) F dX10_init_108 rfl 0 rfl ?_
  refine sw_bipush (pc := 109) (v := 11) F dX10_init_109 rfl ?_
  refine sw_icmp_ge (pc := 111) (tgt := 132) F dX10_init_111 (by decide) (fun c => absurd c (by decide)) (fun _ => ?_)
  refine sw_aload_n (pc := 114) F dX10_init_114 rfl 1 rfl ?_
  refine sw_get (pc := 115) (Cn := RX10) (T := TX10) (N := 5) (ci := 10) (v := .ref q_1) F in10 0 rfl rfl 0 (by decide) rfl (List.mem_of_getElem? (i := 5) rfl) rfl dX10_init_115 ?_
  refine sw_bipush (pc := 118) (v := 26) F dX10_init_118 rfl ?_
  refine sw_iload_n (pc := 120) F dX10_init_120 rfl 0 rfl ?_
  refine sw_iadd (pc := 121) F dX10_init_121 ?_
  refine sw_eqt (v := .int 33) (by rfl) ?_
  refine sw_ldc2 (pc := 122) (v := 10000) F (List.mem_of_getElem? (i := 10) rfl) dX10_init_122 ?_
  obtain ⟨f_20, ef_20⟩ : ∃ y : Nat → Int64, y = vp_updL f_19 33 10000 := ⟨_, rfl⟩
  refine sw_last (pc := 125) (ws' := [(h0, .inr (10, [.ref q_1, .ref q_2, .int 0, .int 0, .long 0])), (q_1, .inl (G.2.1.2, 344, .inr (.inl f_20))), (q_2, .inl (G.2.1.2, 1032, .inr (.inl (fun _ => 0))))]) F 1 rfl (sw_in rfl) dX10_init_125 (by rw [ef_20]; rfl) ?_
  refine sw_iinc (pc := 126) (v := 8) (lv' := [(1, .int 8), (0, .ref h0)]) F T.1 dX10_init_126 (q := 0) rfl rfl (by decide) rfl ?_
  refine sw_goto (pc := 129) (tgt := 108) F dX10_init_129 (by decide) ?_
  refine sw_iload_n (pc := 108) F dX10_init_108 rfl 0 rfl ?_
  refine sw_bipush (pc := 109) (v := 11) F dX10_init_109 rfl ?_
  refine sw_icmp_ge (pc := 111) (tgt := 132) F dX10_init_111 (by decide) (fun c => absurd c (by decide)) (fun _ => ?_)
  refine sw_aload_n (pc := 114) F dX10_init_114 rfl 1 rfl ?_
  refine sw_get (pc := 115) (Cn := RX10) (T := TX10) (N := 5) (ci := 10) (v := .ref q_1) F in10 0 rfl rfl 0 (by decide) rfl (List.mem_of_getElem? (i := 5) rfl) rfl dX10_init_115 ?_
  refine sw_bipush (pc := 118) (v := 26) F dX10_init_118 rfl ?_
  refine sw_iload_n (pc := 120) F dX10_init_120 rfl 0 rfl ?_
  refine sw_iadd (pc := 121) F dX10_init_121 ?_
  refine sw_eqt (v := .int 34) (by rfl) ?_
  refine sw_ldc2 (pc := 122) (v := 10000) F (List.mem_of_getElem? (i := 10) rfl) dX10_init_122 ?_
  obtain ⟨f_21, ef_21⟩ : ∃ y : Nat → Int64, y = vp_updL f_20 34 10000 := ⟨_, rfl⟩
  refine sw_last (pc := 125) (ws' := [(h0, .inr (10, [.ref q_1, .ref q_2, .int 0, .int 0, .long 0])), (q_1, .inl (G.2.1.2, 344, .inr (.inl f_21))), (q_2, .inl (G.2.1.2, 1032, .inr (.inl (fun _ => 0))))]) F 1 rfl (sw_in rfl) dX10_init_125 (by rw [ef_21]; rfl) ?_
  refine sw_iinc (pc := 126) (v := 9) (lv' := [(1, .int 9), (0, .ref h0)]) F T.1 dX10_init_126 (q := 0) rfl rfl (by decide) rfl ?_
  refine sw_goto (pc := 129) (tgt := 108) F dX10_init_129 (by decide) ?_
  refine sw_iload_n (pc := 108) F dX10_init_108 rfl 0 rfl ?_
  refine sw_bipush (pc := 109) (v := 11) F dX10_init_109 rfl ?_
  refine sw_icmp_ge (pc := 111) (tgt := 132) F dX10_init_111 (by decide) (fun c => absurd c (by decide)) (fun _ => ?_)
  refine sw_aload_n (pc := 114) F dX10_init_114 rfl 1 rfl ?_
  refine sw_get (pc := 115) (Cn := RX10) (T := TX10) (N := 5) (ci := 10) (v := .ref q_1) F in10 0 rfl rfl 0 (by decide) rfl (List.mem_of_getElem? (i := 5) rfl) rfl dX10_init_115 ?_
  refine sw_bipush (pc := 118) (v := 26) F dX10_init_118 rfl ?_
  refine sw_iload_n (pc := 120) F dX10_init_120 rfl 0 rfl ?_
  refine sw_iadd (pc := 121) F dX10_init_121 ?_
  refine sw_eqt (v := .int 35) (by rfl) ?_
  refine sw_ldc2 (pc := 122) (v := 10000) F (List.mem_of_getElem? (i := 10) rfl) dX10_init_122 ?_
  obtain ⟨f_22, ef_22⟩ : ∃ y : Nat → Int64, y = vp_updL f_21 35 10000 := ⟨_, rfl⟩
  refine sw_last (pc := 125) (ws' := [(h0, .inr (10, [.ref q_1, .ref q_2, .int 0, .int 0, .long 0])), (q_1, .inl (G.2.1.2, 344, .inr (.inl f_22))), (q_2, .inl (G.2.1.2, 1032, .inr (.inl (fun _ => 0))))]) F 1 rfl (sw_in rfl) dX10_init_125 (by rw [ef_22]; rfl) ?_
  refine sw_iinc (pc := 126) (v := 10) (lv' := [(1, .int 10), (0, .ref h0)]) F T.1 dX10_init_126 (q := 0) rfl rfl (by decide) rfl ?_
  refine sw_goto (pc := 129) (tgt := 108) F dX10_init_129 (by decide) ?_
  refine sw_iload_n (pc := 108) F dX10_init_108 rfl 0 rfl ?_
  refine sw_bipush (pc := 109) (v := 11) F dX10_init_109 rfl ?_
  refine sw_icmp_ge (pc := 111) (tgt := 132) F dX10_init_111 (by decide) (fun c => absurd c (by decide)) (fun _ => ?_)
  refine sw_aload_n (pc := 114) F dX10_init_114 rfl 1 rfl ?_
  refine sw_get (pc := 115) (Cn := RX10) (T := TX10) (N := 5) (ci := 10) (v := .ref q_1) F in10 0 rfl rfl 0 (by decide) rfl (List.mem_of_getElem? (i := 5) rfl) rfl dX10_init_115 ?_
  refine sw_bipush (pc := 118) (v := 26) F dX10_init_118 rfl ?_
  refine sw_iload_n (pc := 120) F dX10_init_120 rfl 0 rfl ?_
  refine sw_iadd (pc := 121) F dX10_init_121 ?_
  refine sw_eqt (v := .int 36) (by rfl) ?_
  refine sw_ldc2 (pc := 122) (v := 10000) F (List.mem_of_getElem? (i := 10) rfl) dX10_init_122 ?_
  obtain ⟨f_23, ef_23⟩ : ∃ y : Nat → Int64, y = vp_updL f_22 36 10000 := ⟨_, rfl⟩
  refine sw_last (pc := 125) (ws' := [(h0, .inr (10, [.ref q_1, .ref q_2, .int 0, .int 0, .long 0])), (q_1, .inl (G.2.1.2, 344, .inr (.inl f_23))), (q_2, .inl (G.2.1.2, 1032, .inr (.inl (fun _ => 0))))]) F 1 rfl (sw_in rfl) dX10_init_125 (by rw [ef_23]; rfl) ?_
  refine sw_iinc (pc := 126) (v := 11) (lv' := [(1, .int 11), (0, .ref h0)]) F T.1 dX10_init_126 (q := 0) rfl rfl (by decide) rfl ?_
  refine sw_goto (pc := 129) (tgt := 108) F dX10_init_129 (by decide) ?_
  refine sw_iload_n (pc := 108) F dX10_init_108 rfl 0 rfl ?_
  refine sw_bipush (pc := 109) (v := 11) F dX10_init_109 rfl ?_
  refine sw_icmp_ge (pc := 111) (tgt := 132) F dX10_init_111 (by decide) (fun _ => ?_) (fun c => absurd c (by decide))
  refine sw_aload_n (pc := 132) F dX10_init_132 rfl 1 rfl ?_
  refine sw_get (pc := 133) (Cn := RX10) (T := TX10) (N := 5) (ci := 10) (v := .ref q_1) F in10 0 rfl rfl 0 (by decide) rfl (List.mem_of_getElem? (i := 5) rfl) rfl dX10_init_133 ?_
  refine sw_bipush (pc := 136) (v := 41) F dX10_init_136 rfl ?_
  refine sw_lconst (pc := 138) (v := 1) F dX10_init_138 rfl ?_
  obtain ⟨f_24, ef_24⟩ : ∃ y : Nat → Int64, y = vp_updL f_23 41 1 := ⟨_, rfl⟩
  refine sw_last (pc := 139) (ws' := [(h0, .inr (10, [.ref q_1, .ref q_2, .int 0, .int 0, .long 0])), (q_1, .inl (G.2.1.2, 344, .inr (.inl f_24))), (q_2, .inl (G.2.1.2, 1032, .inr (.inl (fun _ => 0))))]) F 1 rfl (sw_in rfl) dX10_init_139 (by rw [ef_24]; rfl) ?_
  subst ef_24
  subst ef_23
  subst ef_22
  subst ef_21
  subst ef_20
  subst ef_19
  subst ef_18
  subst ef_17
  subst ef_16
  subst ef_15
  subst ef_14
  subst ef_13
  subst ef_12
  subst ef_11
  subst ef_10
  subst ef_9
  subst ef_8
  subst ef_7
  subst ef_6
  subst ef_5
  subst ef_4
  subst ef_3
  exact sw_vret (pc := 140) F T (q_1, q_2, (vp_updL (vp_updL (vp_updL (vp_updL (vp_updL (vp_updL (vp_updL (vp_updL (vp_updL (vp_updL (vp_updL (vp_updL (vp_updL (vp_updL (vp_updL (vp_updL (vp_updL (vp_updL (vp_updL (vp_updL (vp_updL (vp_updL (fun _ => 0) 2 1000) 6 2500) 7 25000) 8 10000) 9 2000) 14 13107) 15 13107) 16 13107) 17 13107) 21 (-500)) 26 10000) 27 10000) 28 10000) 29 10000) 30 10000) 31 10000) 32 10000) 33 10000) 34 10000) 35 10000) 36 10000) 41 1)) rfl rfl dX10_init_140
noncomputable def mdFor (S : Nat → Int64) (v : Int64) : Int32 := dgo (fun d => f_X10_flowBy_r S (nI d).toInt64 (S 20) (S 21)) v 30001 0
set_option maxHeartbeats 4000000 in
set_option maxRecDepth 100000 in
theorem k_X10_differentialFor (l : Launch) (G : sw_E) (h0 : Nat) (b0 : Nat) (b1 : Nat) (np : Int32) (th : Int32) (hh : Int64) (S : Nat → Int64) (P : Nat → Int64) (v : Int64) (hp0 : ¬ v < 0) (hp1 : v ≤ 1000000000) (hK : 0 ≤ (S 2).toInt ∧ (S 2).toInt ≤ 100000) (hs : ∀ i, i < 30001 → 0 ≤ ((100 * (nI i).toInt64) * (f_X10_densityAt_r S (S 20) (S 21))).toInt ∧ ((100 * (nI i).toInt64) * (f_X10_densityAt_r S (S 20) (S 21))).toInt < 70368744177664) (hpb : (S 20).toInt ≤ 1000000) (hbd : -1000000 ≤ (S 21).toInt ∧ (S 21).toInt ≤ 1000000) : sw_M l G yX10_differentialFor wsX10_differentialFor ({ frames := 3, cells := 0, slots := 0, locals := 81 } : Room) [.ref h0, .long v] [(h0, .inr (10, [.ref b0, .ref b1, .int np, .int th, .long hh])), (b0, .inl (G.2.1.2, 344, .inr (.inl S))), (b1, .inl (G.2.1.2, 1032, .inr (.inl P)))] (sw_QI G (S := Int32) (fun (r : Int32) (u : Int32) => r = mdFor S v ∧ u = 0) (fun u => [(h0, .inr (10, [.ref b0, .ref b1, .int np, .int u, .long hh])), (b0, .inl (G.2.1.2, 344, .inr (.inl S))), (b1, .inl (G.2.1.2, 1032, .inr (.inl P)))])) 0 0 := by
  refine sw_start (cc := cX10_differentialFor) (maxL := 4) (ret := some .int) (lv := [(0, .ref h0), (1, .long v)]) (own := RX10) (nm := "differentialFor") (by decide +kernel) rfl rfl rfl rfl (Nat.le_of_ble_eq_true rfl) (fun C F T => ?_)
  have in10 : ∀ w ∈ u_ws RX10 TX10 5, w ∈ wsX10_differentialFor := fun w h => List.mem_cons_of_mem _ (List.mem_append_right _ (h))
  have loop : ∀ (m i : Nat), i + m = 30001 → dgo (fun d => f_X10_flowBy_r S (nI d).toInt64 (S 20) (S 21)) v m i = mdFor S v → SW G C 0 0 [(h0, .inr (10, [.ref b0, .ref b1, .int np, .int th, .long hh])), (b0, .inl (G.2.1.2, 344, .inr (.inl S))), (b1, .inl (G.2.1.2, 1032, .inr (.inl P)))] [(3, .int (nI i)), (0, .ref h0), (1, .long v)] 19 [] := by
    intro m
    induction m with
    | zero =>
      intro i hi hR
      refine sw_iload_n (pc := 19) F dX10_differentialFor_19 rfl 0 rfl ?_
      refine sw_sipush (pc := 20) (v := 30000) F dX10_differentialFor_20 rfl ?_
      refine sw_icmp_gt (pc := 23) (tgt := 57) F dX10_differentialFor_23 (by decide) (fun _ => ?_) (fun c => absurd (by rw [show i = 30001 by omega]; decide) c)
      refine sw_aload_n (pc := 57) F dX10_differentialFor_57 rfl 1 rfl ?_
      refine sw_iload_n (pc := 58) F dX10_differentialFor_58 rfl 0 rfl ?_
      refine sw_sipush (pc := 59) (v := 30000) F dX10_differentialFor_59 rfl ?_
      refine sw_icmp_gt (pc := 62) (tgt := 70) F dX10_differentialFor_62 (by decide) (fun _ => ?_) (fun c => absurd (by rw [show i = 30001 by omega]; decide) c)
      refine sw_ldc2 (pc := 70) (v := (-1)) F (List.mem_of_getElem? (i := 3) rfl) dX10_differentialFor_70 ?_
      refine sw_calli (pc := 73) (wr := []) (k' := 0) (n' := 0) F (sw_runV (R := ({ frames := 3, cells := 0, slots := 0, locals := 81 } : Room)) (q0 := 0) (na := 1) F T.2.1 T.2.2.1 (k_X10_tells l G h0 b0 b1 np th hh S P (-1)) [0, 1, 2] rfl (by decide) gX10_differentialFor_X10_tells rfl rfl rfl (by decide +kernel) ⟨Nat.le_of_ble_eq_true rfl, Nat.le_of_ble_eq_true rfl⟩ rfl rfl rfl rfl rfl (Nat.le_of_ble_eq_true rfl) dX10_differentialFor_73 (Nat.le_of_ble_eq_true rfl) (Nat.le_of_ble_eq_true rfl)) [0, 1, 2] [] rfl rfl (by decide) (by decide) rfl rfl (fun r_1 u_2 h_3 => ?_)
      have e_4 : r_1 = f_X10_tells_r (-1) := h_3
      refine sw_eq (ws' := [(h0, .inr (10, [.ref b0, .ref b1, .int np, .int 0, .long hh])), (b0, .inl (G.2.1.2, 344, .inr (.inl S))), (b1, .inl (G.2.1.2, 1032, .inr (.inl P)))]) (lv' := [(3, .int (nI i)), (0, .ref h0), (1, .long v)]) (st' := [.int r_1]) rfl rfl rfl ?_
      subst e_4
      exact sw_iret (pc := 76) F T rfl rfl 0 ⟨by rw [← hR]; rfl, rfl⟩ rfl dX10_differentialFor_76
    | succ m ih =>
      intro i hi hR
      have hk := hs i (by omega)
      have hle : ¬ (30000 : Int32) < nI i := fun c => absurd ((nI_leI (a := i) (b := 30000) (by omega) (by decide)).mpr (by omega)) (Int32.not_le.mpr c)
      refine sw_iload_n (pc := 19) F dX10_differentialFor_19 rfl 0 rfl ?_
      refine sw_sipush (pc := 20) (v := 30000) F dX10_differentialFor_20 rfl ?_
      refine sw_icmp_gt (pc := 23) (tgt := 57) F dX10_differentialFor_23 (by decide) (fun c => absurd c hle) (fun _ => ?_)
      refine sw_aload_n (pc := 26) F dX10_differentialFor_26 rfl 1 rfl ?_
      refine sw_iload_n (pc := 27) F dX10_differentialFor_27 rfl 0 rfl ?_
      refine sw_i2l (pc := 28) F dX10_differentialFor_28 rfl ?_
      refine sw_aload_n (pc := 29) F dX10_differentialFor_29 rfl 1 rfl ?_
      refine sw_get (pc := 30) (Cn := RX10) (T := TX10) (N := 5) (ci := 10) (v := .ref b0) F in10 0 rfl rfl 0 (by decide) rfl (List.mem_of_getElem? (i := 2) rfl) rfl dX10_differentialFor_30 ?_
      refine sw_bipush (pc := 33) (v := 20) F dX10_differentialFor_33 rfl ?_
      refine sw_lald (pc := 35) F 1 rfl (sw_in rfl) dX10_differentialFor_35 ?_
      refine sw_naml (e := S 20) rfl (fun x_5 ex_5 => ?_)
      refine sw_aload_n (pc := 36) F dX10_differentialFor_36 rfl 1 rfl ?_
      refine sw_get (pc := 37) (Cn := RX10) (T := TX10) (N := 5) (ci := 10) (v := .ref b0) F in10 0 rfl rfl 0 (by decide) rfl (List.mem_of_getElem? (i := 2) rfl) rfl dX10_differentialFor_37 ?_
      refine sw_bipush (pc := 40) (v := 21) F dX10_differentialFor_40 rfl ?_
      refine sw_lald (pc := 42) F 1 rfl (sw_in rfl) dX10_differentialFor_42 ?_
      refine sw_naml (e := S 21) rfl (fun x_6 ex_6 => ?_)
      refine sw_calll (pc := 43) (wr := []) (k' := 0) (n' := 0) F (sw_runV (R := ({ frames := 3, cells := 0, slots := 0, locals := 81 } : Room)) (q0 := 0) (na := 3) F T.2.1 T.2.2.1 (k_X10_flowBy l G h0 b0 b1 np th hh S P ((((nI i)).toInt64)) x_5 x_6 hK (by subst_vars; exact hk.1) (by subst_vars; exact hk.2) (by rw [nI_l (by omega), lN_toInt (by omega)]; omega) (by subst_vars; exact hpb) (by subst_vars; exact hbd)) [0, 1, 2] rfl (by decide) gX10_differentialFor_X10_flowBy rfl rfl rfl (by decide +kernel) ⟨Nat.le_of_ble_eq_true rfl, Nat.le_of_ble_eq_true rfl⟩ rfl rfl rfl rfl rfl (Nat.le_of_ble_eq_true rfl) dX10_differentialFor_43 (Nat.le_of_ble_eq_true rfl) (Nat.le_of_ble_eq_true rfl)) [0, 1, 2] [] rfl rfl (by decide) (by decide) rfl rfl (fun r_7 u_8 h_9 => ?_)
      have e_10 : r_7 = f_X10_flowBy_r S ((((nI i)).toInt64)) x_5 x_6 := h_9
      refine sw_eq (ws' := [(h0, .inr (10, [.ref b0, .ref b1, .int np, .int th, .long hh])), (b0, .inl (G.2.1.2, 344, .inr (.inl S))), (b1, .inl (G.2.1.2, 1032, .inr (.inl P)))]) (lv' := [(3, .int (nI i)), (0, .ref h0), (1, .long v)]) (st' := [.long r_7]) rfl rfl rfl ?_
      refine sw_lload_n (pc := 46) F dX10_differentialFor_46 rfl 2 rfl ?_
      refine sw_lcmp_ge (pc := 47) (tgt := 57) F dX10_differentialFor_47 dX10_differentialFor_48 (by decide) (fun c_11 => ?_) (fun c_11 => ?_)
      · skip
        refine sw_aload_n (pc := 57) F dX10_differentialFor_57 rfl 1 rfl ?_
        refine sw_iload_n (pc := 58) F dX10_differentialFor_58 rfl 0 rfl ?_
        refine sw_sipush (pc := 59) (v := 30000) F dX10_differentialFor_59 rfl ?_
        refine sw_icmp_gt (pc := 62) (tgt := 70) F dX10_differentialFor_62 (by decide) (fun c => absurd c hle) (fun _ => ?_)
        refine sw_iload_n (pc := 65) F dX10_differentialFor_65 rfl 0 rfl ?_
        refine sw_i2l (pc := 66) F dX10_differentialFor_66 rfl ?_
        refine sw_goto (pc := 67) (tgt := 73) F dX10_differentialFor_67 (by decide) ?_
        refine sw_calli (pc := 73) (wr := []) (k' := 0) (n' := 0) F (sw_runV (R := ({ frames := 3, cells := 0, slots := 0, locals := 81 } : Room)) (q0 := 0) (na := 1) F T.2.1 T.2.2.1 (k_X10_tells l G h0 b0 b1 np th hh S P ((((nI i)).toInt64))) [0, 1, 2] rfl (by decide) gX10_differentialFor_X10_tells rfl rfl rfl (by decide +kernel) ⟨Nat.le_of_ble_eq_true rfl, Nat.le_of_ble_eq_true rfl⟩ rfl rfl rfl rfl rfl (Nat.le_of_ble_eq_true rfl) dX10_differentialFor_73 (Nat.le_of_ble_eq_true rfl) (Nat.le_of_ble_eq_true rfl)) [0, 1, 2] [] rfl rfl (by decide) (by decide) rfl rfl (fun r_12 u_13 h_14 => ?_)
        have e_15 : r_12 = f_X10_tells_r ((((nI i)).toInt64)) := h_14
        refine sw_eq (ws' := [(h0, .inr (10, [.ref b0, .ref b1, .int np, .int 0, .long hh])), (b0, .inl (G.2.1.2, 344, .inr (.inl S))), (b1, .inl (G.2.1.2, 1032, .inr (.inl P)))]) (lv' := [(3, .int (nI i)), (0, .ref h0), (1, .long v)]) (st' := [.int r_12]) rfl rfl rfl ?_
        subst e_15
        subst e_10
        subst ex_6
        subst ex_5
        exact sw_iret (pc := 76) F T rfl rfl 0 ⟨by rw [← hR]; exact (show f_X10_tells_r (nI i).toInt64 = nI i by rw [nI_l (by omega)]; exact lN_i i).trans (if_neg (Int64.not_lt.mpr c_11)).symm, rfl⟩ rfl dX10_differentialFor_76
      · skip
        obtain ⟨x_16, ex_16⟩ : ∃ y : Int32, y = (nI i) + 1 := ⟨_, rfl⟩
        refine sw_iinc (pc := 51) (v := x_16) (lv' := [(3, .int x_16), (0, .ref h0), (1, .long v)]) F T.1 dX10_differentialFor_51 (q := 0) rfl ex_16.symm (by decide) rfl ?_
        refine sw_goto (pc := 54) (tgt := 19) F dX10_differentialFor_54 (by decide) ?_
        refine sw_lvs (is := [0, 1, 2]) (lv' := [(3, .int x_16), (0, .ref h0), (1, .long v)]) rfl ?_
        subst ex_16
        subst e_10
        subst ex_6
        subst ex_5
        have hq : dgo (fun d => f_X10_flowBy_r S (nI d).toInt64 (S 20) (S 21)) v m (i + 1) = mdFor S v := by rw [← hR]; exact (if_pos (Int64.not_le.mp c_11)).symm
        refine sw_eq (lv' := [(3, .int (nI (i + 1))), (0, .ref h0), (1, .long v)]) rfl (by rw [nI_1]) rfl ?_
        exact ih (i + 1) (by omega) hq
  refine sw_lload_n (pc := 0) F dX10_differentialFor_0 rfl 1 rfl ?_
  refine sw_lconst (pc := 1) (v := 0) F dX10_differentialFor_1 rfl ?_
  refine sw_ldc2 (pc := 2) (v := 1000000000) F (List.mem_of_getElem? (i := 1) rfl) dX10_differentialFor_2 ?_
  refine sw_calli (pc := 5) (wr := [(h0, .inr (10, [.ref b0, .ref b1, .int np, .int th, .long hh])), (b0, .inl (G.2.1.2, 344, .inr (.inl S))), (b1, .inl (G.2.1.2, 1032, .inr (.inl P)))]) (k' := 0) (n' := 0) F (sw_runS (R := ({ frames := 3, cells := 0, slots := 0, locals := 81 } : Room)) (na := 3) F T.2.1 T.2.2.1 (k_X10_in l G v 0 1000000000) [] rfl (by decide) gX10_differentialFor_X10_in rfl rfl rfl (by decide +kernel) ⟨Nat.le_of_ble_eq_true rfl, Nat.le_of_ble_eq_true rfl⟩ rfl rfl (Nat.le_of_ble_eq_true rfl) dX10_differentialFor_5 (Nat.le_of_ble_eq_true rfl) (Nat.le_of_ble_eq_true rfl)) [] [0, 1, 2] rfl rfl (by decide) (by decide) rfl rfl (fun r_17 u_18 h_19 => ?_)
  have e_20 : r_17 = f_X10_in_r v 0 1000000000 := h_19
  refine sw_eq (ws' := [(h0, .inr (10, [.ref b0, .ref b1, .int np, .int th, .long hh])), (b0, .inl (G.2.1.2, 344, .inr (.inl S))), (b1, .inl (G.2.1.2, 1032, .inr (.inl P)))]) (lv' := [(0, .ref h0), (1, .long v)]) (st' := [.int r_17]) rfl rfl rfl ?_
  refine sw_if_ne (pc := 8) (tgt := 17) F dX10_differentialFor_8 (by decide) (fun _ => ?_) (fun c => absurd c (by rw [e_20]; exact in_1 (by assumption) (by assumption)))
  refine sw_iconst (pc := 17) (v := 0) F dX10_differentialFor_17 rfl ?_
  refine sw_istore_n (pc := 18) (lv' := [(3, .int 0), (0, .ref h0), (1, .long v)]) F T.1 dX10_differentialFor_18 rfl (by decide) rfl ?_
  refine sw_lvs (is := [0, 1, 2]) (lv' := [(3, .int 0), (0, .ref h0), (1, .long v)]) rfl ?_
  exact loop 30001 0 (by omega) rfl
noncomputable def md_a (S : Nat → Int64) : Nat → Int64 := vp_updL S 0 ((S 0) + 1)
noncomputable def md_b (S : Nat → Int64) : Nat → Int64 := (g_X10_senses_5 (g_X10_senses_4 (g_X10_senses_3 (g_X10_senses_2 (g_X10_senses_1 (g_X10_senses_0 (md_a S)))))))
noncomputable def md_c (S : Nat → Int64) : Nat → Int64 := (g_X10_ranges_1 (g_X10_ranges_0 (md_b S)))
noncomputable def md_d (S : Nat → Int64) : Nat → Int64 := f_X10_flows_o1 (md_c S)
noncomputable def md_e (S : Nat → Int64) : Nat → Int64 := (g_X10_loads_0 (md_d S))
noncomputable def md_f (S : Nat → Int64) : Nat → Int64 := (g_X10_counts_9 (g_X10_counts_8 (g_X10_counts_7 (g_X10_counts_6 (g_X10_counts_5 (g_X10_counts_4 (g_X10_counts_3 (g_X10_counts_2 (g_X10_counts_1 (g_X10_counts_0 (md_e S)))))))))))
noncomputable def md_second (S : Nat → Int64) : Nat → Int64 := if md_f S 0 - md_f S 0 / 3600 * 3600 = 0 then (g_X10_endsHour_5 (md_f S) (g_X10_endsHour_4 (g_X10_endsHour_3 (md_f S) (g_X10_endsHour_2 (md_f S) (g_X10_endsHour_1 (md_f S) (g_X10_endsHour_0 (md_f S))))))) else md_f S
def mdOk (S : Nat → Int64) : Prop := (mI (md_a S)) ∧ (mI (md_b S)) ∧ ((md_b S) 37 = 0 ∨ (md_b S) 37 = 1) ∧ (0 ≤ ((md_c S) 2).toInt ∧ ((md_c S) 2).toInt ≤ 100000) ∧ (0 ≤ ((100 * ((md_c S) 39)) * (f_X10_densityAt_r (md_c S) ((md_c S) 20) ((md_c S) 21))).toInt) ∧ (((100 * ((md_c S) 39)) * (f_X10_densityAt_r (md_c S) ((md_c S) 20) ((md_c S) 21))).toInt < 70368744177664) ∧ (0 ≤ ((md_c S) 39).toInt ∧ ((md_c S) 39).toInt ≤ 30000) ∧ (((md_c S) 20).toInt ≤ 1000000) ∧ (-1000000 ≤ ((md_c S) 21).toInt ∧ ((md_c S) 21).toInt ≤ 1000000) ∧ (mI (md_d S)) ∧ (0 ≤ ((md_f S) 63).toInt ∧ ((md_f S) 63).toInt ≤ 24) ∧ (hI2 (md_f S))
noncomputable def mds : Nat → (Nat → Int64) → (Nat → Int64)
  | 0, S => S
  | k + 1, S => md_second (mds k S)
set_option maxHeartbeats 4000000 in
set_option maxRecDepth 100000 in
theorem k_X10_run (l : Launch) (G : sw_E) (h0 : Nat) (b0 : Nat) (b1 : Nat) (np : Int32) (th : Int32) (hh : Int64) (S : Nat → Int64) (P : Nat → Int64) (Nn : Nat) (p : Int32) (Np : Nat) (hnp : np = nI Nn) (hNn : Nn < 4) (hp0 : ¬ p.toInt64 < 1) (hp1 : p.toInt64 ≤ 20000) (hp : p = nI Np) (hNp : Np < 2 ^ 31) (hs : ∀ k, k < Np → mdOk (mds k S)) : sw_M l G yX10_run wsX10_run ({ frames := 4, cells := 0, slots := 0, locals := 105 } : Room) [.ref h0, .int p] [(h0, .inr (10, [.ref b0, .ref b1, .int np, .int th, .long hh])), (b0, .inl (G.2.1.2, 344, .inr (.inl S))), (b1, .inl (G.2.1.2, 1032, .inr (.inl P)))] (sw_QL G (S := Int32 × Int32 × (Nat → Int64) × (Nat → Int64)) (fun (r : Int64) (u : Int32 × Int32 × (Nat → Int64) × (Nat → Int64)) => r = (mds Np S) 42 - S 42 ∧ u.1 = (nI (if Nn = 3 then 3 else Nn + 1)) ∧ u.2.1 = 0 ∧ u.2.2.1 = mds Np S ∧ u.2.2.2 = (md_save Nn S P)) (fun u => [(h0, .inr (10, [.ref b0, .ref b1, .int u.1, .int u.2.1, .long hh])), (b0, .inl (G.2.1.2, 344, .inr (.inl u.2.2.1))), (b1, .inl (G.2.1.2, 1032, .inr (.inl u.2.2.2)))])) 0 0 := by
  refine sw_start (cc := cX10_run) (maxL := 5) (ret := some .long) (lv := [(0, .ref h0), (1, .int p)]) (own := RX10) (nm := "run") (by decide +kernel) rfl rfl rfl rfl (Nat.le_of_ble_eq_true rfl) (fun C F T => ?_)
  have in10 : ∀ w ∈ u_ws RX10 TX10 5, w ∈ wsX10_run := fun w h => List.mem_cons_of_mem _ (List.mem_append_right _ (h))
  have loop : ∀ (m i : Nat), i + m = Np → SW G C 0 0 [(h0, .inr (10, [.ref b0, .ref b1, .int ((nI (if Nn = 3 then 3 else Nn + 1))), .int 0, .long hh])), (b0, .inl (G.2.1.2, 344, .inr (.inl ((mds i S))))), (b1, .inl (G.2.1.2, 1032, .inr (.inl ((md_save Nn S P)))))] [(4, .int (nI i)), (2, .long (S 42)), (0, .ref h0), (1, .int p)] 34 [] := by
    intro m
    induction m with
    | zero =>
      intro i hi
      refine sw_iload (pc := 34) F dX10_run_34 0 rfl ?_
      refine sw_iload_n (pc := 36) F dX10_run_36 rfl 3 rfl ?_
      refine sw_icmp_ge (pc := 37) (tgt := 95) F dX10_run_37 (by decide) (fun _ => ?_) (fun c => absurd (by rw [hp, show i = Np by omega]; exact nI_le (Nat.le_refl Np) hNp) c)
      refine sw_aload_n (pc := 95) F dX10_run_95 rfl 2 rfl ?_
      refine sw_get (pc := 96) (Cn := RX10) (T := TX10) (N := 5) (ci := 10) (v := .ref b0) F in10 0 rfl rfl 0 (by decide) rfl (List.mem_of_getElem? (i := 2) rfl) rfl dX10_run_96 ?_
      refine sw_bipush (pc := 99) (v := 42) F dX10_run_99 rfl ?_
      refine sw_lald (pc := 101) F 1 rfl (sw_in rfl) dX10_run_101 ?_
      refine sw_naml (e := ((mds i S)) 42) rfl (fun x_1 ex_1 => ?_)
      refine sw_lload_n (pc := 102) F dX10_run_102 rfl 1 rfl ?_
      refine sw_lsub (pc := 103) F dX10_run_103 ?_
      refine sw_topl (fun x_2 ex_2 => ?_)
      subst ex_2
      subst ex_1
      obtain rfl : i = Np := by omega
      exact sw_lret (pc := 104) F T ((nI (if Nn = 3 then 3 else Nn + 1)), 0, mds i S, (md_save Nn S P)) ⟨rfl, rfl, rfl, rfl, rfl⟩ rfl dX10_run_104
    | succ m ih =>
      intro i hi
      have hk := hs i (by omega)
      obtain ⟨kk, hkk⟩ : ∃ z, z = nI i := ⟨_, rfl⟩
      rw [← hkk]
      refine sw_iload (pc := 34) F dX10_run_34 0 rfl ?_
      refine sw_iload_n (pc := 36) F dX10_run_36 rfl 3 rfl ?_
      refine sw_icmp_ge (pc := 37) (tgt := 95) F dX10_run_37 (by decide) (fun c => absurd c (by rw [hkk, hp]; exact nI_ge (a := i) (b := Np) (by omega) hNp)) (fun _ => ?_)
      refine sw_aload_n (pc := 40) F dX10_run_40 rfl 2 rfl ?_
      refine sw_get (pc := 41) (Cn := RX10) (T := TX10) (N := 5) (ci := 10) (v := .ref b0) F in10 0 rfl rfl 0 (by decide) rfl (List.mem_of_getElem? (i := 2) rfl) rfl dX10_run_41 ?_
      refine sw_iconst (pc := 44) (v := 0) F dX10_run_44 rfl ?_
      refine sw_dup2 (pc := 45) F dX10_run_45 rfl rfl ?_
      refine sw_lald (pc := 46) F 1 rfl (sw_in rfl) dX10_run_46 ?_
      refine sw_naml (e := ((mds i S)) 0) rfl (fun x_3 ex_3 => ?_)
      refine sw_lconst (pc := 47) (v := 1) F dX10_run_47 rfl ?_
      refine sw_ladd (pc := 48) F dX10_run_48 ?_
      refine sw_topl (fun x_4 ex_4 => ?_)
      obtain ⟨f_5, ef_5⟩ : ∃ y : Nat → Int64, y = vp_updL ((mds i S)) 0 x_4 := ⟨_, rfl⟩
      refine sw_last (pc := 49) (ws' := [(h0, .inr (10, [.ref b0, .ref b1, .int ((nI (if Nn = 3 then 3 else Nn + 1))), .int 0, .long hh])), (b0, .inl (G.2.1.2, 344, .inr (.inl f_5))), (b1, .inl (G.2.1.2, 1032, .inr (.inl ((md_save Nn S P)))))]) F 1 rfl (sw_in rfl) dX10_run_49 (by rw [ef_5]; rfl) ?_
      subst ef_5
      subst ex_4
      subst ex_3
      refine sw_eq (ws' := [(h0, .inr (10, [.ref b0, .ref b1, .int ((nI (if Nn = 3 then 3 else Nn + 1))), .int 0, .long hh])), (b0, .inl (G.2.1.2, 344, .inr (.inl ((md_a (mds i S)))))), (b1, .inl (G.2.1.2, 1032, .inr (.inl ((md_save Nn S P)))))]) rfl rfl rfl ?_
      refine sw_aload_n (pc := 50) F dX10_run_50 rfl 2 rfl ?_
      refine sw_callv (pc := 51) (wr := []) (k' := 0) (n' := 0) F (sw_runV (R := ({ frames := 4, cells := 0, slots := 0, locals := 105 } : Room)) (q0 := 0) (na := 0) F T.2.1 T.2.2.1 (k_X10_senses l G h0 b0 b1 ((nI (if Nn = 3 then 3 else Nn + 1))) 0 hh ((md_a (mds i S))) ((md_save Nn S P)) hk.1) [0, 1, 2] rfl (by decide) gX10_run_X10_senses rfl rfl rfl (by decide +kernel) ⟨Nat.le_of_ble_eq_true rfl, Nat.le_of_ble_eq_true rfl⟩ rfl rfl rfl rfl rfl (Nat.le_of_ble_eq_true rfl) dX10_run_51 (Nat.le_of_ble_eq_true rfl) (Nat.le_of_ble_eq_true rfl)) [0, 1, 2] [] rfl rfl (by decide) (by decide) rfl rfl (fun u_7 h_8 => ?_)
      obtain ⟨o_9, eu_7⟩ : ∃ z, z = u_7 := ⟨_, rfl⟩; subst eu_7
      have e_10 : o_9 = (g_X10_senses_5 (g_X10_senses_4 (g_X10_senses_3 (g_X10_senses_2 (g_X10_senses_1 (g_X10_senses_0 ((md_a (mds i S))))))))) := h_8
      refine sw_eq (ws' := [(h0, .inr (10, [.ref b0, .ref b1, .int (((nI (if Nn = 3 then 3 else Nn + 1)))), .int 0, .long hh])), (b0, .inl (G.2.1.2, 344, .inr (.inl o_9))), (b1, .inl (G.2.1.2, 1032, .inr (.inl (((md_save Nn S P))))))]) (lv' := [(4, .int kk), (2, .long (S 42)), (0, .ref h0), (1, .int p)]) (st' := []) rfl rfl rfl ?_
      refine sw_eq (ws' := [(h0, .inr (10, [.ref b0, .ref b1, .int ((nI (if Nn = 3 then 3 else Nn + 1))), .int 0, .long hh])), (b0, .inl (G.2.1.2, 344, .inr (.inl ((md_b (mds i S)))))), (b1, .inl (G.2.1.2, 1032, .inr (.inl ((md_save Nn S P)))))]) (by rw [e_10]; rfl) rfl rfl ?_
      refine sw_aload_n (pc := 54) F dX10_run_54 rfl 2 rfl ?_
      refine sw_callv (pc := 55) (wr := []) (k' := 0) (n' := 0) F (sw_runV (R := ({ frames := 4, cells := 0, slots := 0, locals := 105 } : Room)) (q0 := 0) (na := 0) F T.2.1 T.2.2.1 (k_X10_ranges l G h0 b0 b1 ((nI (if Nn = 3 then 3 else Nn + 1))) 0 hh ((md_b (mds i S))) ((md_save Nn S P)) hk.2.1 hk.2.2.1) [0, 1, 2] rfl (by decide) gX10_run_X10_ranges rfl rfl rfl (by decide +kernel) ⟨Nat.le_of_ble_eq_true rfl, Nat.le_of_ble_eq_true rfl⟩ rfl rfl rfl rfl rfl (Nat.le_of_ble_eq_true rfl) dX10_run_55 (Nat.le_of_ble_eq_true rfl) (Nat.le_of_ble_eq_true rfl)) [0, 1, 2] [] rfl rfl (by decide) (by decide) rfl rfl (fun u_12 h_13 => ?_)
      obtain ⟨o_14, eu_12⟩ : ∃ z, z = u_12 := ⟨_, rfl⟩; subst eu_12
      have e_15 : o_14 = (g_X10_ranges_1 (g_X10_ranges_0 ((md_b (mds i S))))) := h_13
      refine sw_eq (ws' := [(h0, .inr (10, [.ref b0, .ref b1, .int (((nI (if Nn = 3 then 3 else Nn + 1)))), .int 0, .long hh])), (b0, .inl (G.2.1.2, 344, .inr (.inl o_14))), (b1, .inl (G.2.1.2, 1032, .inr (.inl (((md_save Nn S P))))))]) (lv' := [(4, .int kk), (2, .long (S 42)), (0, .ref h0), (1, .int p)]) (st' := []) rfl rfl rfl ?_
      refine sw_eq (ws' := [(h0, .inr (10, [.ref b0, .ref b1, .int ((nI (if Nn = 3 then 3 else Nn + 1))), .int 0, .long hh])), (b0, .inl (G.2.1.2, 344, .inr (.inl ((md_c (mds i S)))))), (b1, .inl (G.2.1.2, 1032, .inr (.inl ((md_save Nn S P)))))]) (by rw [e_15]; rfl) rfl rfl ?_
      refine sw_aload_n (pc := 58) F dX10_run_58 rfl 2 rfl ?_
      refine sw_callv (pc := 59) (wr := []) (k' := 0) (n' := 0) F (sw_runV (R := ({ frames := 4, cells := 0, slots := 0, locals := 105 } : Room)) (q0 := 0) (na := 0) F T.2.1 T.2.2.1 (k_X10_flows l G h0 b0 b1 ((nI (if Nn = 3 then 3 else Nn + 1))) 0 hh ((md_c (mds i S))) ((md_save Nn S P)) hk.2.2.2.1 hk.2.2.2.2.1 hk.2.2.2.2.2.1 hk.2.2.2.2.2.2.1 hk.2.2.2.2.2.2.2.1 hk.2.2.2.2.2.2.2.2.1) [0, 1, 2] rfl (by decide) gX10_run_X10_flows rfl rfl rfl (by decide +kernel) ⟨Nat.le_of_ble_eq_true rfl, Nat.le_of_ble_eq_true rfl⟩ rfl rfl rfl rfl rfl (Nat.le_of_ble_eq_true rfl) dX10_run_59 (Nat.le_of_ble_eq_true rfl) (Nat.le_of_ble_eq_true rfl)) [0, 1, 2] [] rfl rfl (by decide) (by decide) rfl rfl (fun u_17 h_18 => ?_)
      obtain ⟨o_19, eu_17⟩ : ∃ z, z = u_17 := ⟨_, rfl⟩; subst eu_17
      have e_20 : o_19 = f_X10_flows_o1 ((md_c (mds i S))) := h_18
      refine sw_eq (ws' := [(h0, .inr (10, [.ref b0, .ref b1, .int (((nI (if Nn = 3 then 3 else Nn + 1)))), .int 0, .long hh])), (b0, .inl (G.2.1.2, 344, .inr (.inl o_19))), (b1, .inl (G.2.1.2, 1032, .inr (.inl (((md_save Nn S P))))))]) (lv' := [(4, .int kk), (2, .long (S 42)), (0, .ref h0), (1, .int p)]) (st' := []) rfl rfl rfl ?_
      refine sw_eq (ws' := [(h0, .inr (10, [.ref b0, .ref b1, .int ((nI (if Nn = 3 then 3 else Nn + 1))), .int 0, .long hh])), (b0, .inl (G.2.1.2, 344, .inr (.inl ((md_d (mds i S)))))), (b1, .inl (G.2.1.2, 1032, .inr (.inl ((md_save Nn S P)))))]) (by rw [e_20]; rfl) rfl rfl ?_
      refine sw_aload_n (pc := 62) F dX10_run_62 rfl 2 rfl ?_
      refine sw_callv (pc := 63) (wr := []) (k' := 0) (n' := 0) F (sw_runV (R := ({ frames := 4, cells := 0, slots := 0, locals := 105 } : Room)) (q0 := 0) (na := 0) F T.2.1 T.2.2.1 (k_X10_loads l G h0 b0 b1 ((nI (if Nn = 3 then 3 else Nn + 1))) 0 hh ((md_d (mds i S))) ((md_save Nn S P)) hk.2.2.2.2.2.2.2.2.2.1) [0, 1, 2] rfl (by decide) gX10_run_X10_loads rfl rfl rfl (by decide +kernel) ⟨Nat.le_of_ble_eq_true rfl, Nat.le_of_ble_eq_true rfl⟩ rfl rfl rfl rfl rfl (Nat.le_of_ble_eq_true rfl) dX10_run_63 (Nat.le_of_ble_eq_true rfl) (Nat.le_of_ble_eq_true rfl)) [0, 1, 2] [] rfl rfl (by decide) (by decide) rfl rfl (fun u_22 h_23 => ?_)
      obtain ⟨o_24, eu_22⟩ : ∃ z, z = u_22 := ⟨_, rfl⟩; subst eu_22
      have e_25 : o_24 = (g_X10_loads_0 ((md_d (mds i S)))) := h_23
      refine sw_eq (ws' := [(h0, .inr (10, [.ref b0, .ref b1, .int (((nI (if Nn = 3 then 3 else Nn + 1)))), .int 0, .long hh])), (b0, .inl (G.2.1.2, 344, .inr (.inl o_24))), (b1, .inl (G.2.1.2, 1032, .inr (.inl (((md_save Nn S P))))))]) (lv' := [(4, .int kk), (2, .long (S 42)), (0, .ref h0), (1, .int p)]) (st' := []) rfl rfl rfl ?_
      refine sw_eq (ws' := [(h0, .inr (10, [.ref b0, .ref b1, .int ((nI (if Nn = 3 then 3 else Nn + 1))), .int 0, .long hh])), (b0, .inl (G.2.1.2, 344, .inr (.inl ((md_e (mds i S)))))), (b1, .inl (G.2.1.2, 1032, .inr (.inl ((md_save Nn S P)))))]) (by rw [e_25]; rfl) rfl rfl ?_
      refine sw_aload_n (pc := 66) F dX10_run_66 rfl 2 rfl ?_
      refine sw_callv (pc := 67) (wr := []) (k' := 0) (n' := 0) F (sw_runV (R := ({ frames := 4, cells := 0, slots := 0, locals := 105 } : Room)) (q0 := 0) (na := 0) F T.2.1 T.2.2.1 (k_X10_counts l G h0 b0 b1 ((nI (if Nn = 3 then 3 else Nn + 1))) 0 hh ((md_e (mds i S))) ((md_save Nn S P))) [0, 1, 2] rfl (by decide) gX10_run_X10_counts rfl rfl rfl (by decide +kernel) ⟨Nat.le_of_ble_eq_true rfl, Nat.le_of_ble_eq_true rfl⟩ rfl rfl rfl rfl rfl (Nat.le_of_ble_eq_true rfl) dX10_run_67 (Nat.le_of_ble_eq_true rfl) (Nat.le_of_ble_eq_true rfl)) [0, 1, 2] [] rfl rfl (by decide) (by decide) rfl rfl (fun u_27 h_28 => ?_)
      obtain ⟨o_29, eu_27⟩ : ∃ z, z = u_27 := ⟨_, rfl⟩; subst eu_27
      have e_30 : o_29 = (g_X10_counts_9 (g_X10_counts_8 (g_X10_counts_7 (g_X10_counts_6 (g_X10_counts_5 (g_X10_counts_4 (g_X10_counts_3 (g_X10_counts_2 (g_X10_counts_1 (g_X10_counts_0 ((md_e (mds i S))))))))))))) := h_28
      refine sw_eq (ws' := [(h0, .inr (10, [.ref b0, .ref b1, .int (((nI (if Nn = 3 then 3 else Nn + 1)))), .int 0, .long hh])), (b0, .inl (G.2.1.2, 344, .inr (.inl o_29))), (b1, .inl (G.2.1.2, 1032, .inr (.inl (((md_save Nn S P))))))]) (lv' := [(4, .int kk), (2, .long (S 42)), (0, .ref h0), (1, .int p)]) (st' := []) rfl rfl rfl ?_
      refine sw_eq (ws' := [(h0, .inr (10, [.ref b0, .ref b1, .int ((nI (if Nn = 3 then 3 else Nn + 1))), .int 0, .long hh])), (b0, .inl (G.2.1.2, 344, .inr (.inl ((md_f (mds i S)))))), (b1, .inl (G.2.1.2, 1032, .inr (.inl ((md_save Nn S P)))))]) (by rw [e_30]; rfl) rfl rfl ?_
      obtain ⟨Sf, hSf⟩ : ∃ z, z = md_f (mds i S) := ⟨_, rfl⟩
      refine sw_eq (ws' := [(h0, .inr (10, [.ref b0, .ref b1, .int ((nI (if Nn = 3 then 3 else Nn + 1))), .int 0, .long hh])), (b0, .inl (G.2.1.2, 344, .inr (.inl Sf))), (b1, .inl (G.2.1.2, 1032, .inr (.inl ((md_save Nn S P)))))]) (by rw [hSf]) rfl rfl ?_
      refine sw_aload_n (pc := 70) F dX10_run_70 rfl 2 rfl ?_
      refine sw_get (pc := 71) (Cn := RX10) (T := TX10) (N := 5) (ci := 10) (v := .ref b0) F in10 0 rfl rfl 0 (by decide) rfl (List.mem_of_getElem? (i := 2) rfl) rfl dX10_run_71 ?_
      refine sw_iconst (pc := 74) (v := 0) F dX10_run_74 rfl ?_
      refine sw_lald (pc := 75) F 1 rfl (sw_in rfl) dX10_run_75 ?_
      refine sw_naml (e := Sf 0) rfl (fun x_31 ex_31 => ?_)
      refine sw_ldc2 (pc := 76) (v := 3600) F (List.mem_of_getElem? (i := 3) rfl) dX10_run_76 ?_
      refine sw_lrem (pc := 79) F dX10_run_79 (by decide) ?_
      refine sw_topl (fun x_32 ex_32 => ?_)
      refine sw_lconst (pc := 80) (v := 0) F dX10_run_80 rfl ?_
      refine sw_lcmp_ne (pc := 81) (tgt := 89) F dX10_run_81 dX10_run_82 (by decide) (fun c_33 => ?_) (fun c_33 => ?_)
      · skip
        obtain ⟨x_34, ex_34⟩ : ∃ y : Int32, y = kk + 1 := ⟨_, rfl⟩
        refine sw_iinc (pc := 89) (v := x_34) (lv' := [(4, .int x_34), (2, .long (S 42)), (0, .ref h0), (1, .int p)]) F T.1 dX10_run_89 (q := 0) rfl ex_34.symm (by decide) rfl ?_
        refine sw_goto (pc := 92) (tgt := 34) F dX10_run_92 (by decide) ?_
        refine sw_lvs (is := [0, 1, 2, 3]) (lv' := [(4, .int x_34), (2, .long (S 42)), (0, .ref h0), (1, .int p)]) rfl ?_
        subst ex_34
        subst ex_32
        subst ex_31
        refine sw_eq (ws' := [(h0, .inr (10, [.ref b0, .ref b1, .int ((nI (if Nn = 3 then 3 else Nn + 1))), .int 0, .long hh])), (b0, .inl (G.2.1.2, 344, .inr (.inl ((mds (i + 1) S))))), (b1, .inl (G.2.1.2, 1032, .inr (.inl ((md_save Nn S P)))))]) (lv' := [(4, .int (nI (i + 1))), (2, .long (S 42)), (0, .ref h0), (1, .int p)]) (by rw [show mds (i + 1) S = (if Sf 0 - Sf 0 / 3600 * 3600 = 0 then (g_X10_endsHour_5 Sf (g_X10_endsHour_4 (g_X10_endsHour_3 Sf (g_X10_endsHour_2 Sf (g_X10_endsHour_1 Sf (g_X10_endsHour_0 Sf)))))) else Sf) by rw [hSf]; rfl, if_neg c_33]) (by rw [hkk, nI_1]) rfl ?_
        exact ih (i + 1) (by omega)
      · skip
        refine sw_aload_n (pc := 85) F dX10_run_85 rfl 2 rfl ?_
        refine sw_callv (pc := 86) (wr := []) (k' := 0) (n' := 0) F (sw_runV (R := ({ frames := 4, cells := 0, slots := 0, locals := 105 } : Room)) (q0 := 0) (na := 0) F T.2.1 T.2.2.1 (k_X10_endsHour l G h0 b0 b1 ((nI (if Nn = 3 then 3 else Nn + 1))) 0 hh Sf ((md_save Nn S P)) (by rw [hSf]; exact hk.2.2.2.2.2.2.2.2.2.2.1) (by rw [hSf]; exact hk.2.2.2.2.2.2.2.2.2.2.2)) [0, 1, 2] rfl (by decide) gX10_run_X10_endsHour rfl rfl rfl (by decide +kernel) ⟨Nat.le_of_ble_eq_true rfl, Nat.le_of_ble_eq_true rfl⟩ rfl rfl rfl rfl rfl (Nat.le_of_ble_eq_true rfl) dX10_run_86 (Nat.le_of_ble_eq_true rfl) (Nat.le_of_ble_eq_true rfl)) [0, 1, 2] [] rfl rfl (by decide) (by decide) rfl rfl (fun u_36 h_37 => ?_)
        obtain ⟨o_38, eu_36⟩ : ∃ z, z = u_36 := ⟨_, rfl⟩; subst eu_36
        have e_39 : o_38 = (g_X10_endsHour_5 Sf (g_X10_endsHour_4 (g_X10_endsHour_3 Sf (g_X10_endsHour_2 Sf (g_X10_endsHour_1 Sf (g_X10_endsHour_0 Sf)))))) := h_37
        refine sw_eq (ws' := [(h0, .inr (10, [.ref b0, .ref b1, .int (((nI (if Nn = 3 then 3 else Nn + 1)))), .int 0, .long hh])), (b0, .inl (G.2.1.2, 344, .inr (.inl o_38))), (b1, .inl (G.2.1.2, 1032, .inr (.inl (((md_save Nn S P))))))]) (lv' := [(4, .int kk), (2, .long (S 42)), (0, .ref h0), (1, .int p)]) (st' := []) rfl rfl rfl ?_
        obtain ⟨x_40, ex_40⟩ : ∃ y : Int32, y = kk + 1 := ⟨_, rfl⟩
        refine sw_iinc (pc := 89) (v := x_40) (lv' := [(4, .int x_40), (2, .long (S 42)), (0, .ref h0), (1, .int p)]) F T.1 dX10_run_89 (q := 0) rfl ex_40.symm (by decide) rfl ?_
        refine sw_goto (pc := 92) (tgt := 34) F dX10_run_92 (by decide) ?_
        refine sw_lvs (is := [0, 1, 2, 3]) (lv' := [(4, .int x_40), (2, .long (S 42)), (0, .ref h0), (1, .int p)]) rfl ?_
        subst ex_40
        subst ex_32
        subst ex_31
        refine sw_eq (ws' := [(h0, .inr (10, [.ref b0, .ref b1, .int ((nI (if Nn = 3 then 3 else Nn + 1))), .int 0, .long hh])), (b0, .inl (G.2.1.2, 344, .inr (.inl ((mds (i + 1) S))))), (b1, .inl (G.2.1.2, 1032, .inr (.inl ((md_save Nn S P)))))]) (lv' := [(4, .int (nI (i + 1))), (2, .long (S 42)), (0, .ref h0), (1, .int p)]) (by rw [show mds (i + 1) S = (if Sf 0 - Sf 0 / 3600 * 3600 = 0 then (g_X10_endsHour_5 Sf (g_X10_endsHour_4 (g_X10_endsHour_3 Sf (g_X10_endsHour_2 Sf (g_X10_endsHour_1 Sf (g_X10_endsHour_0 Sf)))))) else Sf) by rw [hSf]; rfl, if_pos c_33]; rw [e_39]) (by rw [hkk, nI_1]) rfl ?_
        exact ih (i + 1) (by omega)
  refine sw_iload_n (pc := 0) F dX10_run_0 rfl 1 rfl ?_
  refine sw_i2l (pc := 1) F dX10_run_1 rfl ?_
  refine sw_lconst (pc := 2) (v := 1) F dX10_run_2 rfl ?_
  refine sw_ldc2 (pc := 3) (v := 20000) F (List.mem_of_getElem? (i := 1) rfl) dX10_run_3 ?_
  refine sw_calli (pc := 6) (wr := [(h0, .inr (10, [.ref b0, .ref b1, .int np, .int th, .long hh])), (b0, .inl (G.2.1.2, 344, .inr (.inl S))), (b1, .inl (G.2.1.2, 1032, .inr (.inl P)))]) (k' := 0) (n' := 0) F (sw_runS (R := ({ frames := 4, cells := 0, slots := 0, locals := 105 } : Room)) (na := 3) F T.2.1 T.2.2.1 (k_X10_in l G p.toInt64 1 20000) [] rfl (by decide) gX10_run_X10_in rfl rfl rfl (by decide +kernel) ⟨Nat.le_of_ble_eq_true rfl, Nat.le_of_ble_eq_true rfl⟩ rfl rfl (Nat.le_of_ble_eq_true rfl) dX10_run_6 (Nat.le_of_ble_eq_true rfl) (Nat.le_of_ble_eq_true rfl)) [] [0, 1, 2] rfl rfl (by decide) (by decide) rfl rfl (fun r_41 u_42 h_43 => ?_)
  have e_44 : r_41 = f_X10_in_r p.toInt64 1 20000 := h_43
  refine sw_eq (ws' := [(h0, .inr (10, [.ref b0, .ref b1, .int np, .int th, .long hh])), (b0, .inl (G.2.1.2, 344, .inr (.inl S))), (b1, .inl (G.2.1.2, 1032, .inr (.inl P)))]) (lv' := [(0, .ref h0), (1, .int p)]) (st' := [.int r_41]) rfl rfl rfl ?_
  refine sw_if_ne (pc := 9) (tgt := 19) F dX10_run_9 (by decide) (fun _ => ?_) (fun c => absurd c (by rw [e_44]; exact in_1 (by assumption) (by assumption)))
  refine sw_aload_n (pc := 19) F dX10_run_19 rfl 0 rfl ?_
  refine sw_callv (pc := 20) (wr := []) (k' := 0) (n' := 0) F (sw_runV (R := ({ frames := 4, cells := 0, slots := 0, locals := 105 } : Room)) (q0 := 0) (na := 0) F T.2.1 T.2.2.1 (k_X10_save l G h0 b0 b1 np th hh S P Nn hnp (by omega)) [0, 1, 2] rfl (by decide) gX10_run_X10_save rfl rfl rfl (by decide +kernel) ⟨Nat.le_of_ble_eq_true rfl, Nat.le_of_ble_eq_true rfl⟩ rfl rfl rfl rfl rfl (Nat.le_of_ble_eq_true rfl) dX10_run_20 (Nat.le_of_ble_eq_true rfl) (Nat.le_of_ble_eq_true rfl)) [0, 1, 2] [] rfl rfl (by decide) (by decide) rfl rfl (fun u_46 h_47 => ?_)
  obtain ⟨o_48, o_49⟩ := u_46
  obtain ⟨e_50, e_51⟩ : o_48 = nI (if Nn = 3 then 3 else Nn + 1) ∧ o_49 = md_save Nn S P := h_47
  refine sw_eq (ws' := [(h0, .inr (10, [.ref b0, .ref b1, .int o_48, .int 0, .long hh])), (b0, .inl (G.2.1.2, 344, .inr (.inl S))), (b1, .inl (G.2.1.2, 1032, .inr (.inl o_49)))]) (lv' := [(0, .ref h0), (1, .int p)]) (st' := []) rfl rfl rfl ?_
  refine sw_aload_n (pc := 23) F dX10_run_23 rfl 0 rfl ?_
  refine sw_get (pc := 24) (Cn := RX10) (T := TX10) (N := 5) (ci := 10) (v := .ref b0) F in10 0 rfl rfl 0 (by decide) rfl (List.mem_of_getElem? (i := 2) rfl) rfl dX10_run_24 ?_
  refine sw_bipush (pc := 27) (v := 42) F dX10_run_27 rfl ?_
  refine sw_lald (pc := 29) F 1 rfl (sw_in rfl) dX10_run_29 ?_
  refine sw_naml (e := S 42) rfl (fun x_52 ex_52 => ?_)
  refine sw_lstore_n (pc := 30) (lv' := [(2, .long x_52), (0, .ref h0), (1, .int p)]) F T.1 dX10_run_30 rfl (by decide) rfl ?_
  refine sw_iconst (pc := 31) (v := 0) F dX10_run_31 rfl ?_
  refine sw_istore (pc := 32) (lv' := [(4, .int 0), (2, .long x_52), (0, .ref h0), (1, .int p)]) F T.1 dX10_run_32 (by decide) rfl ?_
  refine sw_lvs (is := [0, 1, 2, 3]) (lv' := [(4, .int 0), (2, .long x_52), (0, .ref h0), (1, .int p)]) rfl ?_
  subst ex_52
  subst e_51
  subst e_50
  subst e_44
  refine sw_eq (ws' := [(h0, .inr (10, [.ref b0, .ref b1, .int ((nI (if Nn = 3 then 3 else Nn + 1))), .int 0, .long hh])), (b0, .inl (G.2.1.2, 344, .inr (.inl ((mds 0 S))))), (b1, .inl (G.2.1.2, 1032, .inr (.inl ((md_save Nn S P)))))]) (lv' := [(4, .int (nI 0)), (2, .long (S 42)), (0, .ref h0), (1, .int p)]) rfl rfl rfl ?_
  exact loop Np 0 (by omega)
