theorem in_1 {v a b : Int64} (h : ¬ v < a) (h2 : v ≤ b) : ¬ f_X10_in_r v a b = 0 := by
  unfold f_X10_in_r
  rw [if_neg h, if_neg (Int64.not_lt.mpr h2)]
  decide
theorem isT_1 {t : Int32} {n : Nat} (h : t = nI n) (hn : n < 4) : ¬ f_X10_isTransmitter_r t = 0 := by
  have k : ∀ n, n < 4 → ¬ f_X10_isTransmitter_r (nI n) = 0 := by decide
  rw [h]
  exact k n hn
def f_X10_setSpan_o0_2 (Nn : Nat) : Int32 := (f_X10_sets_o0_2 Nn)
def f_X10_setSpan_o1 (S : Nat → Int64) (Nt : Nat) (p : Int32) : Nat → Int64 := (f_X10_sets_o1 S (6 + Nt) p.toInt64 0)
def f_X10_setSpan_o2 (S : Nat → Int64) (P : Nat → Int64) (Nn : Nat) : Nat → Int64 := (f_X10_sets_o2 S P Nn)
def f_X10_setSpan_r (S : Nat → Int64) (Nt : Nat) : Int32 := (f_X10_sets_r S (6 + Nt))
set_option maxHeartbeats 4000000 in
set_option maxRecDepth 100000 in
theorem k_X10_setSpan (l : Launch) (G : sw_E) (h0 : Nat) (b0 : Nat) (b1 : Nat) (np : Int32) (th : Int32) (hh : Int64) (S : Nat → Int64) (P : Nat → Int64) (Nn : Nat) (t : Int32) (Nt : Nat) (p : Int32) (hnp : np = nI Nn) (hNn : Nn < 4) (ht : t = nI Nt) (hNt : Nt < 4) (hp0 : ¬ p.toInt64 < 100) (hp1 : p.toInt64 ≤ 30000) (hc : 0 ≤ (S 253).toInt ∧ (S 253).toInt ≤ 30) : sw_M l G yX10_setSpan wsX10_setSpan ({ frames := 3, cells := 0, slots := 0, locals := 73 } : Room) [.ref h0, .int t, .int p] [(h0, .inr (10, [.ref b0, .ref b1, .int np, .int th, .long hh])), (b0, .inl (G.2.1.2, 344, .inr (.inl S))), (b1, .inl (G.2.1.2, 1032, .inr (.inl P)))] (sw_QI G (S := Int32 × (Nat → Int64) × (Nat → Int64)) (fun (r : Int32) (u : Int32 × (Nat → Int64) × (Nat → Int64)) => r = f_X10_setSpan_r S Nt ∧ u.1 = f_X10_setSpan_o0_2 Nn ∧ u.2.1 = f_X10_setSpan_o1 S Nt p ∧ u.2.2 = f_X10_setSpan_o2 S P Nn) (fun u => [(h0, .inr (10, [.ref b0, .ref b1, .int u.1, .int 0, .long hh])), (b0, .inl (G.2.1.2, 344, .inr (.inl u.2.1))), (b1, .inl (G.2.1.2, 1032, .inr (.inl u.2.2)))])) 0 0 := by
  refine sw_start (cc := cX10_setSpan) (maxL := 3) (ret := some .int) (lv := [(0, .ref h0), (1, .int t), (2, .int p)]) (own := RX10) (nm := "setSpan") (by decide +kernel) rfl rfl rfl rfl (Nat.le_of_ble_eq_true rfl) (fun C F T => ?_)
  refine sw_iload_n (pc := 0) F dX10_setSpan_0 rfl 1 rfl ?_
  refine sw_calli (pc := 1) (wr := [(h0, .inr (10, [.ref b0, .ref b1, .int np, .int th, .long hh])), (b0, .inl (G.2.1.2, 344, .inr (.inl S))), (b1, .inl (G.2.1.2, 1032, .inr (.inl P)))]) (k' := 0) (n' := 0) F (sw_runS (R := ({ frames := 3, cells := 0, slots := 0, locals := 73 } : Room)) (na := 1) F T.2.1 T.2.2.1 (k_X10_isTransmitter l G t) [] rfl (by decide) gX10_setSpan_X10_isTransmitter rfl rfl rfl (by decide +kernel) ⟨Nat.le_of_ble_eq_true rfl, Nat.le_of_ble_eq_true rfl⟩ rfl rfl (Nat.le_of_ble_eq_true rfl) dX10_setSpan_1 (Nat.le_of_ble_eq_true rfl) (Nat.le_of_ble_eq_true rfl)) [] [0, 1, 2] rfl rfl (by decide) (by decide) rfl rfl (fun r_1 u_2 h_3 => ?_)
  have e_4 : r_1 = f_X10_isTransmitter_r t := h_3
  refine sw_eq (ws' := [(h0, .inr (10, [.ref b0, .ref b1, .int np, .int th, .long hh])), (b0, .inl (G.2.1.2, 344, .inr (.inl S))), (b1, .inl (G.2.1.2, 1032, .inr (.inl P)))]) (lv' := [(0, .ref h0), (1, .int t), (2, .int p)]) (st' := [.int r_1]) rfl rfl rfl ?_
  refine sw_if_ne (pc := 4) (tgt := 13) F dX10_setSpan_4 (by decide) (fun _ => ?_) (fun c => absurd c (by rw [e_4]; exact isT_1 ht hNt))
  refine sw_iload_n (pc := 13) F dX10_setSpan_13 rfl 2 rfl ?_
  refine sw_i2l (pc := 14) F dX10_setSpan_14 rfl ?_
  refine sw_ldc2 (pc := 15) (v := 100) F (List.mem_of_getElem? (i := 1) rfl) dX10_setSpan_15 ?_
  refine sw_ldc2 (pc := 18) (v := 30000) F (List.mem_of_getElem? (i := 2) rfl) dX10_setSpan_18 ?_
  refine sw_calli (pc := 21) (wr := [(h0, .inr (10, [.ref b0, .ref b1, .int np, .int th, .long hh])), (b0, .inl (G.2.1.2, 344, .inr (.inl S))), (b1, .inl (G.2.1.2, 1032, .inr (.inl P)))]) (k' := 0) (n' := 0) F (sw_runS (R := ({ frames := 3, cells := 0, slots := 0, locals := 73 } : Room)) (na := 3) F T.2.1 T.2.2.1 (k_X10_in l G p.toInt64 100 30000) [] rfl (by decide) gX10_setSpan_X10_in rfl rfl rfl (by decide +kernel) ⟨Nat.le_of_ble_eq_true rfl, Nat.le_of_ble_eq_true rfl⟩ rfl rfl (Nat.le_of_ble_eq_true rfl) dX10_setSpan_21 (Nat.le_of_ble_eq_true rfl) (Nat.le_of_ble_eq_true rfl)) [] [0, 1, 2] rfl rfl (by decide) (by decide) rfl rfl (fun r_5 u_6 h_7 => ?_)
  have e_8 : r_5 = f_X10_in_r p.toInt64 100 30000 := h_7
  refine sw_eq (ws' := [(h0, .inr (10, [.ref b0, .ref b1, .int np, .int th, .long hh])), (b0, .inl (G.2.1.2, 344, .inr (.inl S))), (b1, .inl (G.2.1.2, 1032, .inr (.inl P)))]) (lv' := [(0, .ref h0), (1, .int t), (2, .int p)]) (st' := [.int r_5]) rfl rfl rfl ?_
  refine sw_if_eq (pc := 24) (tgt := 41) F dX10_setSpan_24 (by decide) (fun c => absurd c (by rw [e_8]; exact in_1 (by assumption) (by assumption))) (fun _ => ?_)
  refine sw_aload_n (pc := 27) F dX10_setSpan_27 rfl 0 rfl ?_
  refine sw_bipush (pc := 28) (v := 6) F dX10_setSpan_28 rfl ?_
  refine sw_iload_n (pc := 30) F dX10_setSpan_30 rfl 1 rfl ?_
  refine sw_iadd (pc := 31) F dX10_setSpan_31 ?_
  refine sw_topi (fun x_9 ex_9 => ?_)
  have ix_9 : x_9 = nI (6 + Nt) := by rw [ex_9, ht]; exact nI_add 6 Nt
  refine sw_iload_n (pc := 32) F dX10_setSpan_32 rfl 2 rfl ?_
  refine sw_i2l (pc := 33) F dX10_setSpan_33 rfl ?_
  refine sw_iconst (pc := 34) (v := 0) F dX10_setSpan_34 rfl ?_
  refine sw_calli (pc := 35) (wr := []) (k' := 0) (n' := 0) F (sw_runV (R := ({ frames := 3, cells := 0, slots := 0, locals := 73 } : Room)) (q0 := 0) (na := 3) F T.2.1 T.2.2.1 (k_X10_sets l G h0 b0 b1 np th hh S P Nn x_9 (6 + Nt) p.toInt64 0 hnp (by omega) ix_9 (by omega) (by assumption)) [0, 1, 2] rfl (by decide) gX10_setSpan_X10_sets rfl rfl rfl (by decide +kernel) ⟨Nat.le_of_ble_eq_true rfl, Nat.le_of_ble_eq_true rfl⟩ rfl rfl rfl rfl rfl (Nat.le_of_ble_eq_true rfl) dX10_setSpan_35 (Nat.le_of_ble_eq_true rfl) (Nat.le_of_ble_eq_true rfl)) [0, 1, 2] [] rfl rfl (by decide) (by decide) rfl rfl (fun r_10 u_11 h_12 => ?_)
  obtain ⟨o_13, o_14, o_15⟩ := u_11
  obtain ⟨e_16, e_17, e_18, e_19⟩ : r_10 = f_X10_sets_r S (6 + Nt) ∧ o_13 = f_X10_sets_o0_2 Nn ∧ o_14 = f_X10_sets_o1 S (6 + Nt) p.toInt64 0 ∧ o_15 = f_X10_sets_o2 S P Nn := h_12
  refine sw_eq (ws' := [(h0, .inr (10, [.ref b0, .ref b1, .int o_13, .int 0, .long hh])), (b0, .inl (G.2.1.2, 344, .inr (.inl o_14))), (b1, .inl (G.2.1.2, 1032, .inr (.inl o_15)))]) (lv' := [(0, .ref h0), (1, .int t), (2, .int p)]) (st' := [.int r_10]) rfl rfl rfl ?_
  refine sw_goto (pc := 38) (tgt := 46) F dX10_setSpan_38 (by decide) ?_
  subst e_19
  subst e_18
  subst e_17
  subst e_16
  subst ex_9
  subst e_8
  subst e_4
  exact sw_iret (pc := 46) F T rfl rfl ((f_X10_sets_o0_2 Nn), (f_X10_sets_o1 S (6 + Nt) p.toInt64 0), (f_X10_sets_o2 S P Nn)) ⟨rfl, rfl, rfl, rfl⟩ rfl dX10_setSpan_46
def f_X10_setDamping_o0_2 (Nn : Nat) : Int32 := (f_X10_sets_o0_2 Nn)
def f_X10_setDamping_o1 (S : Nat → Int64) (Nt : Nat) (p : Int32) : Nat → Int64 := (f_X10_sets_o1 S (10 + Nt) p.toInt64 1)
def f_X10_setDamping_o2 (S : Nat → Int64) (P : Nat → Int64) (Nn : Nat) : Nat → Int64 := (f_X10_sets_o2 S P Nn)
def f_X10_setDamping_r (S : Nat → Int64) (Nt : Nat) : Int32 := (f_X10_sets_r S (10 + Nt))
set_option maxHeartbeats 4000000 in
set_option maxRecDepth 100000 in
theorem k_X10_setDamping (l : Launch) (G : sw_E) (h0 : Nat) (b0 : Nat) (b1 : Nat) (np : Int32) (th : Int32) (hh : Int64) (S : Nat → Int64) (P : Nat → Int64) (Nn : Nat) (t : Int32) (Nt : Nat) (p : Int32) (hnp : np = nI Nn) (hNn : Nn < 4) (ht : t = nI Nt) (hNt : Nt < 4) (hp0 : ¬ p.toInt64 < 0) (hp1 : p.toInt64 ≤ 8) (hc : 0 ≤ (S 253).toInt ∧ (S 253).toInt ≤ 30) : sw_M l G yX10_setDamping wsX10_setDamping ({ frames := 3, cells := 0, slots := 0, locals := 73 } : Room) [.ref h0, .int t, .int p] [(h0, .inr (10, [.ref b0, .ref b1, .int np, .int th, .long hh])), (b0, .inl (G.2.1.2, 344, .inr (.inl S))), (b1, .inl (G.2.1.2, 1032, .inr (.inl P)))] (sw_QI G (S := Int32 × (Nat → Int64) × (Nat → Int64)) (fun (r : Int32) (u : Int32 × (Nat → Int64) × (Nat → Int64)) => r = f_X10_setDamping_r S Nt ∧ u.1 = f_X10_setDamping_o0_2 Nn ∧ u.2.1 = f_X10_setDamping_o1 S Nt p ∧ u.2.2 = f_X10_setDamping_o2 S P Nn) (fun u => [(h0, .inr (10, [.ref b0, .ref b1, .int u.1, .int 0, .long hh])), (b0, .inl (G.2.1.2, 344, .inr (.inl u.2.1))), (b1, .inl (G.2.1.2, 1032, .inr (.inl u.2.2)))])) 0 0 := by
  refine sw_start (cc := cX10_setDamping) (maxL := 3) (ret := some .int) (lv := [(0, .ref h0), (1, .int t), (2, .int p)]) (own := RX10) (nm := "setDamping") (by decide +kernel) rfl rfl rfl rfl (Nat.le_of_ble_eq_true rfl) (fun C F T => ?_)
  refine sw_iload_n (pc := 0) F dX10_setDamping_0 rfl 1 rfl ?_
  refine sw_calli (pc := 1) (wr := [(h0, .inr (10, [.ref b0, .ref b1, .int np, .int th, .long hh])), (b0, .inl (G.2.1.2, 344, .inr (.inl S))), (b1, .inl (G.2.1.2, 1032, .inr (.inl P)))]) (k' := 0) (n' := 0) F (sw_runS (R := ({ frames := 3, cells := 0, slots := 0, locals := 73 } : Room)) (na := 1) F T.2.1 T.2.2.1 (k_X10_isTransmitter l G t) [] rfl (by decide) gX10_setDamping_X10_isTransmitter rfl rfl rfl (by decide +kernel) ⟨Nat.le_of_ble_eq_true rfl, Nat.le_of_ble_eq_true rfl⟩ rfl rfl (Nat.le_of_ble_eq_true rfl) dX10_setDamping_1 (Nat.le_of_ble_eq_true rfl) (Nat.le_of_ble_eq_true rfl)) [] [0, 1, 2] rfl rfl (by decide) (by decide) rfl rfl (fun r_1 u_2 h_3 => ?_)
  have e_4 : r_1 = f_X10_isTransmitter_r t := h_3
  refine sw_eq (ws' := [(h0, .inr (10, [.ref b0, .ref b1, .int np, .int th, .long hh])), (b0, .inl (G.2.1.2, 344, .inr (.inl S))), (b1, .inl (G.2.1.2, 1032, .inr (.inl P)))]) (lv' := [(0, .ref h0), (1, .int t), (2, .int p)]) (st' := [.int r_1]) rfl rfl rfl ?_
  refine sw_if_ne (pc := 4) (tgt := 13) F dX10_setDamping_4 (by decide) (fun _ => ?_) (fun c => absurd c (by rw [e_4]; exact isT_1 ht hNt))
  refine sw_iload_n (pc := 13) F dX10_setDamping_13 rfl 2 rfl ?_
  refine sw_i2l (pc := 14) F dX10_setDamping_14 rfl ?_
  refine sw_lconst (pc := 15) (v := 0) F dX10_setDamping_15 rfl ?_
  refine sw_ldc2 (pc := 16) (v := 8) F (List.mem_of_getElem? (i := 1) rfl) dX10_setDamping_16 ?_
  refine sw_calli (pc := 19) (wr := [(h0, .inr (10, [.ref b0, .ref b1, .int np, .int th, .long hh])), (b0, .inl (G.2.1.2, 344, .inr (.inl S))), (b1, .inl (G.2.1.2, 1032, .inr (.inl P)))]) (k' := 0) (n' := 0) F (sw_runS (R := ({ frames := 3, cells := 0, slots := 0, locals := 73 } : Room)) (na := 3) F T.2.1 T.2.2.1 (k_X10_in l G p.toInt64 0 8) [] rfl (by decide) gX10_setDamping_X10_in rfl rfl rfl (by decide +kernel) ⟨Nat.le_of_ble_eq_true rfl, Nat.le_of_ble_eq_true rfl⟩ rfl rfl (Nat.le_of_ble_eq_true rfl) dX10_setDamping_19 (Nat.le_of_ble_eq_true rfl) (Nat.le_of_ble_eq_true rfl)) [] [0, 1, 2] rfl rfl (by decide) (by decide) rfl rfl (fun r_5 u_6 h_7 => ?_)
  have e_8 : r_5 = f_X10_in_r p.toInt64 0 8 := h_7
  refine sw_eq (ws' := [(h0, .inr (10, [.ref b0, .ref b1, .int np, .int th, .long hh])), (b0, .inl (G.2.1.2, 344, .inr (.inl S))), (b1, .inl (G.2.1.2, 1032, .inr (.inl P)))]) (lv' := [(0, .ref h0), (1, .int t), (2, .int p)]) (st' := [.int r_5]) rfl rfl rfl ?_
  refine sw_if_eq (pc := 22) (tgt := 39) F dX10_setDamping_22 (by decide) (fun c => absurd c (by rw [e_8]; exact in_1 (by assumption) (by assumption))) (fun _ => ?_)
  refine sw_aload_n (pc := 25) F dX10_setDamping_25 rfl 0 rfl ?_
  refine sw_bipush (pc := 26) (v := 10) F dX10_setDamping_26 rfl ?_
  refine sw_iload_n (pc := 28) F dX10_setDamping_28 rfl 1 rfl ?_
  refine sw_iadd (pc := 29) F dX10_setDamping_29 ?_
  refine sw_topi (fun x_9 ex_9 => ?_)
  have ix_9 : x_9 = nI (10 + Nt) := by rw [ex_9, ht]; exact nI_add 10 Nt
  refine sw_iload_n (pc := 30) F dX10_setDamping_30 rfl 2 rfl ?_
  refine sw_i2l (pc := 31) F dX10_setDamping_31 rfl ?_
  refine sw_iconst (pc := 32) (v := 1) F dX10_setDamping_32 rfl ?_
  refine sw_calli (pc := 33) (wr := []) (k' := 0) (n' := 0) F (sw_runV (R := ({ frames := 3, cells := 0, slots := 0, locals := 73 } : Room)) (q0 := 0) (na := 3) F T.2.1 T.2.2.1 (k_X10_sets l G h0 b0 b1 np th hh S P Nn x_9 (10 + Nt) p.toInt64 1 hnp (by omega) ix_9 (by omega) (by assumption)) [0, 1, 2] rfl (by decide) gX10_setDamping_X10_sets rfl rfl rfl (by decide +kernel) ⟨Nat.le_of_ble_eq_true rfl, Nat.le_of_ble_eq_true rfl⟩ rfl rfl rfl rfl rfl (Nat.le_of_ble_eq_true rfl) dX10_setDamping_33 (Nat.le_of_ble_eq_true rfl) (Nat.le_of_ble_eq_true rfl)) [0, 1, 2] [] rfl rfl (by decide) (by decide) rfl rfl (fun r_10 u_11 h_12 => ?_)
  obtain ⟨o_13, o_14, o_15⟩ := u_11
  obtain ⟨e_16, e_17, e_18, e_19⟩ : r_10 = f_X10_sets_r S (10 + Nt) ∧ o_13 = f_X10_sets_o0_2 Nn ∧ o_14 = f_X10_sets_o1 S (10 + Nt) p.toInt64 1 ∧ o_15 = f_X10_sets_o2 S P Nn := h_12
  refine sw_eq (ws' := [(h0, .inr (10, [.ref b0, .ref b1, .int o_13, .int 0, .long hh])), (b0, .inl (G.2.1.2, 344, .inr (.inl o_14))), (b1, .inl (G.2.1.2, 1032, .inr (.inl o_15)))]) (lv' := [(0, .ref h0), (1, .int t), (2, .int p)]) (st' := [.int r_10]) rfl rfl rfl ?_
  refine sw_goto (pc := 36) (tgt := 44) F dX10_setDamping_36 (by decide) ?_
  subst e_19
  subst e_18
  subst e_17
  subst e_16
  subst ex_9
  subst e_8
  subst e_4
  exact sw_iret (pc := 44) F T rfl rfl ((f_X10_sets_o0_2 Nn), (f_X10_sets_o1 S (10 + Nt) p.toInt64 1), (f_X10_sets_o2 S P Nn)) ⟨rfl, rfl, rfl, rfl⟩ rfl dX10_setDamping_44
def f_X10_setRaw_o0_2 (Nn : Nat) : Int32 := (nI (if Nn = 3 then 3 else Nn + 1))
def f_X10_setRaw_o1 (S : Nat → Int64) (Nt : Nat) (p : Int32) : Nat → Int64 := (vp_updL S (14 + Nt) p.toInt64)
def f_X10_setRaw_o2 (S : Nat → Int64) (P : Nat → Int64) (Nn : Nat) : Nat → Int64 := (md_save Nn S P)
def f_X10_setRaw_r (S : Nat → Int64) (t : Int32) (Nt : Nat) (p : Int32) : Int32 := (f_X10_readingOf_r (vp_updL S (14 + Nt) p.toInt64) Nt t).toInt32
set_option maxHeartbeats 4000000 in
set_option maxRecDepth 100000 in
theorem k_X10_setRaw (l : Launch) (G : sw_E) (h0 : Nat) (b0 : Nat) (b1 : Nat) (np : Int32) (th : Int32) (hh : Int64) (S : Nat → Int64) (P : Nat → Int64) (Nn : Nat) (t : Int32) (Nt : Nat) (p : Int32) (hnp : np = nI Nn) (hNn : Nn < 4) (ht : t = nI Nt) (hNt : Nt < 4) (hp0 : ¬ p.toInt64 < 0) (hp1 : p.toInt64 ≤ 65535) (hc : 0 ≤ (S 253).toInt ∧ (S 253).toInt ≤ 30) : sw_M l G yX10_setRaw wsX10_setRaw ({ frames := 2, cells := 0, slots := 0, locals := 46 } : Room) [.ref h0, .int t, .int p] [(h0, .inr (10, [.ref b0, .ref b1, .int np, .int th, .long hh])), (b0, .inl (G.2.1.2, 344, .inr (.inl S))), (b1, .inl (G.2.1.2, 1032, .inr (.inl P)))] (sw_QI G (S := Int32 × (Nat → Int64) × (Nat → Int64)) (fun (r : Int32) (u : Int32 × (Nat → Int64) × (Nat → Int64)) => r = f_X10_setRaw_r S t Nt p ∧ u.1 = f_X10_setRaw_o0_2 Nn ∧ u.2.1 = f_X10_setRaw_o1 S Nt p ∧ u.2.2 = f_X10_setRaw_o2 S P Nn) (fun u => [(h0, .inr (10, [.ref b0, .ref b1, .int u.1, .int 0, .long hh])), (b0, .inl (G.2.1.2, 344, .inr (.inl u.2.1))), (b1, .inl (G.2.1.2, 1032, .inr (.inl u.2.2)))])) 0 0 := by
  refine sw_start (cc := cX10_setRaw) (maxL := 3) (ret := some .int) (lv := [(0, .ref h0), (1, .int t), (2, .int p)]) (own := RX10) (nm := "setRaw") (by decide +kernel) rfl rfl rfl rfl (Nat.le_of_ble_eq_true rfl) (fun C F T => ?_)
  have in10 : ∀ w ∈ u_ws RX10 TX10 5, w ∈ wsX10_setRaw := fun w h => List.mem_cons_of_mem _ (List.mem_append_right _ (h))
  refine sw_iload_n (pc := 0) F dX10_setRaw_0 rfl 1 rfl ?_
  refine sw_calli (pc := 1) (wr := [(h0, .inr (10, [.ref b0, .ref b1, .int np, .int th, .long hh])), (b0, .inl (G.2.1.2, 344, .inr (.inl S))), (b1, .inl (G.2.1.2, 1032, .inr (.inl P)))]) (k' := 0) (n' := 0) F (sw_runS (R := ({ frames := 2, cells := 0, slots := 0, locals := 46 } : Room)) (na := 1) F T.2.1 T.2.2.1 (k_X10_isTransmitter l G t) [] rfl (by decide) gX10_setRaw_X10_isTransmitter rfl rfl rfl (by decide +kernel) ⟨Nat.le_of_ble_eq_true rfl, Nat.le_of_ble_eq_true rfl⟩ rfl rfl (Nat.le_of_ble_eq_true rfl) dX10_setRaw_1 (Nat.le_of_ble_eq_true rfl) (Nat.le_of_ble_eq_true rfl)) [] [0, 1, 2] rfl rfl (by decide) (by decide) rfl rfl (fun r_1 u_2 h_3 => ?_)
  have e_4 : r_1 = f_X10_isTransmitter_r t := h_3
  refine sw_eq (ws' := [(h0, .inr (10, [.ref b0, .ref b1, .int np, .int th, .long hh])), (b0, .inl (G.2.1.2, 344, .inr (.inl S))), (b1, .inl (G.2.1.2, 1032, .inr (.inl P)))]) (lv' := [(0, .ref h0), (1, .int t), (2, .int p)]) (st' := [.int r_1]) rfl rfl rfl ?_
  refine sw_if_ne (pc := 4) (tgt := 13) F dX10_setRaw_4 (by decide) (fun _ => ?_) (fun c => absurd c (by rw [e_4]; exact isT_1 ht hNt))
  refine sw_iload_n (pc := 13) F dX10_setRaw_13 rfl 2 rfl ?_
  refine sw_i2l (pc := 14) F dX10_setRaw_14 rfl ?_
  refine sw_lconst (pc := 15) (v := 0) F dX10_setRaw_15 rfl ?_
  refine sw_ldc2 (pc := 16) (v := 65535) F (List.mem_of_getElem? (i := 1) rfl) dX10_setRaw_16 ?_
  refine sw_calli (pc := 19) (wr := [(h0, .inr (10, [.ref b0, .ref b1, .int np, .int th, .long hh])), (b0, .inl (G.2.1.2, 344, .inr (.inl S))), (b1, .inl (G.2.1.2, 1032, .inr (.inl P)))]) (k' := 0) (n' := 0) F (sw_runS (R := ({ frames := 2, cells := 0, slots := 0, locals := 46 } : Room)) (na := 3) F T.2.1 T.2.2.1 (k_X10_in l G p.toInt64 0 65535) [] rfl (by decide) gX10_setRaw_X10_in rfl rfl rfl (by decide +kernel) ⟨Nat.le_of_ble_eq_true rfl, Nat.le_of_ble_eq_true rfl⟩ rfl rfl (Nat.le_of_ble_eq_true rfl) dX10_setRaw_19 (Nat.le_of_ble_eq_true rfl) (Nat.le_of_ble_eq_true rfl)) [] [0, 1, 2] rfl rfl (by decide) (by decide) rfl rfl (fun r_5 u_6 h_7 => ?_)
  have e_8 : r_5 = f_X10_in_r p.toInt64 0 65535 := h_7
  refine sw_eq (ws' := [(h0, .inr (10, [.ref b0, .ref b1, .int np, .int th, .long hh])), (b0, .inl (G.2.1.2, 344, .inr (.inl S))), (b1, .inl (G.2.1.2, 1032, .inr (.inl P)))]) (lv' := [(0, .ref h0), (1, .int t), (2, .int p)]) (st' := [.int r_5]) rfl rfl rfl ?_
  refine sw_if_ne (pc := 22) (tgt := 31) F dX10_setRaw_22 (by decide) (fun _ => ?_) (fun c => absurd c (by rw [e_8]; exact in_1 (by assumption) (by assumption)))
  refine sw_aload_n (pc := 31) F dX10_setRaw_31 rfl 0 rfl ?_
  refine sw_callv (pc := 32) (wr := []) (k' := 0) (n' := 0) F (sw_runV (R := ({ frames := 2, cells := 0, slots := 0, locals := 46 } : Room)) (q0 := 0) (na := 0) F T.2.1 T.2.2.1 (k_X10_save l G h0 b0 b1 np th hh S P Nn hnp (by omega)) [0, 1, 2] rfl (by decide) gX10_setRaw_X10_save rfl rfl rfl (by decide +kernel) ⟨Nat.le_of_ble_eq_true rfl, Nat.le_of_ble_eq_true rfl⟩ rfl rfl rfl rfl rfl (Nat.le_of_ble_eq_true rfl) dX10_setRaw_32 (Nat.le_of_ble_eq_true rfl) (Nat.le_of_ble_eq_true rfl)) [0, 1, 2] [] rfl rfl (by decide) (by decide) rfl rfl (fun u_10 h_11 => ?_)
  obtain ⟨o_12, o_13⟩ := u_10
  obtain ⟨e_14, e_15⟩ : o_12 = nI (if Nn = 3 then 3 else Nn + 1) ∧ o_13 = md_save Nn S P := h_11
  refine sw_eq (ws' := [(h0, .inr (10, [.ref b0, .ref b1, .int o_12, .int 0, .long hh])), (b0, .inl (G.2.1.2, 344, .inr (.inl S))), (b1, .inl (G.2.1.2, 1032, .inr (.inl o_13)))]) (lv' := [(0, .ref h0), (1, .int t), (2, .int p)]) (st' := []) rfl rfl rfl ?_
  refine sw_aload_n (pc := 35) F dX10_setRaw_35 rfl 0 rfl ?_
  refine sw_get (pc := 36) (Cn := RX10) (T := TX10) (N := 5) (ci := 10) (v := .ref b0) F in10 0 rfl rfl 0 (by decide) rfl (List.mem_of_getElem? (i := 2) rfl) rfl dX10_setRaw_36 ?_
  refine sw_bipush (pc := 39) (v := 14) F dX10_setRaw_39 rfl ?_
  refine sw_iload_n (pc := 41) F dX10_setRaw_41 rfl 1 rfl ?_
  refine sw_iadd (pc := 42) F dX10_setRaw_42 ?_
  refine sw_topi (fun x_16 ex_16 => ?_)
  have ix_16 : x_16 = nI (14 + Nt) := by rw [ex_16, ht]; exact nI_add 14 Nt
  refine sw_iload_n (pc := 43) F dX10_setRaw_43 rfl 2 rfl ?_
  refine sw_i2l (pc := 44) F dX10_setRaw_44 rfl ?_
  obtain ⟨f_17, ef_17⟩ : ∃ y : Nat → Int64, y = vp_updL S (14 + Nt) p.toInt64 := ⟨_, rfl⟩
  refine sw_last (pc := 45) (ws' := [(h0, .inr (10, [.ref b0, .ref b1, .int o_12, .int 0, .long hh])), (b0, .inl (G.2.1.2, 344, .inr (.inl f_17))), (b1, .inl (G.2.1.2, 1032, .inr (.inl o_13)))]) F 1 rfl (by rw [ix_16]; exact vp_in_nI (by omega) (by decide)) dX10_setRaw_45 (by rw [ef_17, (show x_16.toNatClampNeg = 14 + Nt by rw [ix_16]; exact nI_clamp (by omega))]; rfl) ?_
  refine sw_aload_n (pc := 46) F dX10_setRaw_46 rfl 0 rfl ?_
  refine sw_iload_n (pc := 47) F dX10_setRaw_47 rfl 1 rfl ?_
  refine sw_calll (pc := 48) (wr := []) (k' := 0) (n' := 0) F (sw_runV (R := ({ frames := 2, cells := 0, slots := 0, locals := 46 } : Room)) (q0 := 0) (na := 1) F T.2.1 T.2.2.1 (k_X10_readingOf l G h0 b0 b1 o_12 0 hh f_17 o_13 Nt t ht (by omega)) [0, 1, 2] rfl (by decide) gX10_setRaw_X10_readingOf rfl rfl rfl (by decide +kernel) ⟨Nat.le_of_ble_eq_true rfl, Nat.le_of_ble_eq_true rfl⟩ rfl rfl rfl rfl rfl (Nat.le_of_ble_eq_true rfl) dX10_setRaw_48 (Nat.le_of_ble_eq_true rfl) (Nat.le_of_ble_eq_true rfl)) [0, 1, 2] [] rfl rfl (by decide) (by decide) rfl rfl (fun r_18 u_19 h_20 => ?_)
  have e_21 : r_18 = f_X10_readingOf_r f_17 Nt t := h_20
  refine sw_eq (ws' := [(h0, .inr (10, [.ref b0, .ref b1, .int o_12, .int 0, .long hh])), (b0, .inl (G.2.1.2, 344, .inr (.inl f_17))), (b1, .inl (G.2.1.2, 1032, .inr (.inl o_13)))]) (lv' := [(0, .ref h0), (1, .int t), (2, .int p)]) (st' := [.long r_18]) rfl rfl rfl ?_
  refine sw_l2i (pc := 51) F dX10_setRaw_51 rfl ?_
  subst e_21
  subst ef_17
  subst ex_16
  subst e_15
  subst e_14
  subst e_8
  subst e_4
  exact sw_iret (pc := 52) F T rfl rfl ((nI (if Nn = 3 then 3 else Nn + 1)), (vp_updL S (14 + Nt) p.toInt64), (md_save Nn S P)) ⟨rfl, rfl, rfl, rfl⟩ rfl dX10_setRaw_52
def f_X10_setDensity_o0_2 (Nn : Nat) : Int32 := (f_X10_sets_o0_2 Nn)
def f_X10_setDensity_o1 (S : Nat → Int64) (Nt : Nat) (p : Int32) : Nat → Int64 := (f_X10_sets_o1 S (26 + Nt) p.toInt64 3)
def f_X10_setDensity_o2 (S : Nat → Int64) (P : Nat → Int64) (Nn : Nat) : Nat → Int64 := (f_X10_sets_o2 S P Nn)
def f_X10_setDensity_r (S : Nat → Int64) (Nt : Nat) : Int32 := (f_X10_sets_r S (26 + Nt))
set_option maxHeartbeats 4000000 in
set_option maxRecDepth 100000 in
theorem k_X10_setDensity (l : Launch) (G : sw_E) (h0 : Nat) (b0 : Nat) (b1 : Nat) (np : Int32) (th : Int32) (hh : Int64) (S : Nat → Int64) (P : Nat → Int64) (Nn : Nat) (t : Int32) (Nt : Nat) (p : Int32) (hnp : np = nI Nn) (hNn : Nn < 4) (ht : t = nI Nt) (hNt : Nt < 6) (hj0 : ¬ t.toInt64 < 0) (hj1 : t.toInt64 ≤ 5) (hp0 : ¬ p.toInt64 < 1) (hp1 : p.toInt64 ≤ 20000) (hc : 0 ≤ (S 253).toInt ∧ (S 253).toInt ≤ 30) : sw_M l G yX10_setDensity wsX10_setDensity ({ frames := 3, cells := 0, slots := 0, locals := 73 } : Room) [.ref h0, .int t, .int p] [(h0, .inr (10, [.ref b0, .ref b1, .int np, .int th, .long hh])), (b0, .inl (G.2.1.2, 344, .inr (.inl S))), (b1, .inl (G.2.1.2, 1032, .inr (.inl P)))] (sw_QI G (S := Int32 × (Nat → Int64) × (Nat → Int64)) (fun (r : Int32) (u : Int32 × (Nat → Int64) × (Nat → Int64)) => r = f_X10_setDensity_r S Nt ∧ u.1 = f_X10_setDensity_o0_2 Nn ∧ u.2.1 = f_X10_setDensity_o1 S Nt p ∧ u.2.2 = f_X10_setDensity_o2 S P Nn) (fun u => [(h0, .inr (10, [.ref b0, .ref b1, .int u.1, .int 0, .long hh])), (b0, .inl (G.2.1.2, 344, .inr (.inl u.2.1))), (b1, .inl (G.2.1.2, 1032, .inr (.inl u.2.2)))])) 0 0 := by
  refine sw_start (cc := cX10_setDensity) (maxL := 3) (ret := some .int) (lv := [(0, .ref h0), (1, .int t), (2, .int p)]) (own := RX10) (nm := "setDensity") (by decide +kernel) rfl rfl rfl rfl (Nat.le_of_ble_eq_true rfl) (fun C F T => ?_)
  refine sw_iload_n (pc := 0) F dX10_setDensity_0 rfl 1 rfl ?_
  refine sw_i2l (pc := 1) F dX10_setDensity_1 rfl ?_
  refine sw_lconst (pc := 2) (v := 0) F dX10_setDensity_2 rfl ?_
  refine sw_ldc2 (pc := 3) (v := 5) F (List.mem_of_getElem? (i := 1) rfl) dX10_setDensity_3 ?_
  refine sw_calli (pc := 6) (wr := [(h0, .inr (10, [.ref b0, .ref b1, .int np, .int th, .long hh])), (b0, .inl (G.2.1.2, 344, .inr (.inl S))), (b1, .inl (G.2.1.2, 1032, .inr (.inl P)))]) (k' := 0) (n' := 0) F (sw_runS (R := ({ frames := 3, cells := 0, slots := 0, locals := 73 } : Room)) (na := 3) F T.2.1 T.2.2.1 (k_X10_in l G t.toInt64 0 5) [] rfl (by decide) gX10_setDensity_X10_in rfl rfl rfl (by decide +kernel) ⟨Nat.le_of_ble_eq_true rfl, Nat.le_of_ble_eq_true rfl⟩ rfl rfl (Nat.le_of_ble_eq_true rfl) dX10_setDensity_6 (Nat.le_of_ble_eq_true rfl) (Nat.le_of_ble_eq_true rfl)) [] [0, 1, 2] rfl rfl (by decide) (by decide) rfl rfl (fun r_1 u_2 h_3 => ?_)
  have e_4 : r_1 = f_X10_in_r t.toInt64 0 5 := h_3
  refine sw_eq (ws' := [(h0, .inr (10, [.ref b0, .ref b1, .int np, .int th, .long hh])), (b0, .inl (G.2.1.2, 344, .inr (.inl S))), (b1, .inl (G.2.1.2, 1032, .inr (.inl P)))]) (lv' := [(0, .ref h0), (1, .int t), (2, .int p)]) (st' := [.int r_1]) rfl rfl rfl ?_
  refine sw_if_ne (pc := 9) (tgt := 18) F dX10_setDensity_9 (by decide) (fun _ => ?_) (fun c => absurd c (by rw [e_4]; exact in_1 (by assumption) (by assumption)))
  refine sw_iload_n (pc := 18) F dX10_setDensity_18 rfl 2 rfl ?_
  refine sw_i2l (pc := 19) F dX10_setDensity_19 rfl ?_
  refine sw_lconst (pc := 20) (v := 1) F dX10_setDensity_20 rfl ?_
  refine sw_ldc2 (pc := 21) (v := 20000) F (List.mem_of_getElem? (i := 2) rfl) dX10_setDensity_21 ?_
  refine sw_calli (pc := 24) (wr := [(h0, .inr (10, [.ref b0, .ref b1, .int np, .int th, .long hh])), (b0, .inl (G.2.1.2, 344, .inr (.inl S))), (b1, .inl (G.2.1.2, 1032, .inr (.inl P)))]) (k' := 0) (n' := 0) F (sw_runS (R := ({ frames := 3, cells := 0, slots := 0, locals := 73 } : Room)) (na := 3) F T.2.1 T.2.2.1 (k_X10_in l G p.toInt64 1 20000) [] rfl (by decide) gX10_setDensity_X10_in rfl rfl rfl (by decide +kernel) ⟨Nat.le_of_ble_eq_true rfl, Nat.le_of_ble_eq_true rfl⟩ rfl rfl (Nat.le_of_ble_eq_true rfl) dX10_setDensity_24 (Nat.le_of_ble_eq_true rfl) (Nat.le_of_ble_eq_true rfl)) [] [0, 1, 2] rfl rfl (by decide) (by decide) rfl rfl (fun r_5 u_6 h_7 => ?_)
  have e_8 : r_5 = f_X10_in_r p.toInt64 1 20000 := h_7
  refine sw_eq (ws' := [(h0, .inr (10, [.ref b0, .ref b1, .int np, .int th, .long hh])), (b0, .inl (G.2.1.2, 344, .inr (.inl S))), (b1, .inl (G.2.1.2, 1032, .inr (.inl P)))]) (lv' := [(0, .ref h0), (1, .int t), (2, .int p)]) (st' := [.int r_5]) rfl rfl rfl ?_
  refine sw_if_eq (pc := 27) (tgt := 44) F dX10_setDensity_27 (by decide) (fun c => absurd c (by rw [e_8]; exact in_1 (by assumption) (by assumption))) (fun _ => ?_)
  refine sw_aload_n (pc := 30) F dX10_setDensity_30 rfl 0 rfl ?_
  refine sw_bipush (pc := 31) (v := 26) F dX10_setDensity_31 rfl ?_
  refine sw_iload_n (pc := 33) F dX10_setDensity_33 rfl 1 rfl ?_
  refine sw_iadd (pc := 34) F dX10_setDensity_34 ?_
  refine sw_topi (fun x_9 ex_9 => ?_)
  have ix_9 : x_9 = nI (26 + Nt) := by rw [ex_9, ht]; exact nI_add 26 Nt
  refine sw_iload_n (pc := 35) F dX10_setDensity_35 rfl 2 rfl ?_
  refine sw_i2l (pc := 36) F dX10_setDensity_36 rfl ?_
  refine sw_iconst (pc := 37) (v := 3) F dX10_setDensity_37 rfl ?_
  refine sw_calli (pc := 38) (wr := []) (k' := 0) (n' := 0) F (sw_runV (R := ({ frames := 3, cells := 0, slots := 0, locals := 73 } : Room)) (q0 := 0) (na := 3) F T.2.1 T.2.2.1 (k_X10_sets l G h0 b0 b1 np th hh S P Nn x_9 (26 + Nt) p.toInt64 3 hnp (by omega) ix_9 (by omega) (by assumption)) [0, 1, 2] rfl (by decide) gX10_setDensity_X10_sets rfl rfl rfl (by decide +kernel) ⟨Nat.le_of_ble_eq_true rfl, Nat.le_of_ble_eq_true rfl⟩ rfl rfl rfl rfl rfl (Nat.le_of_ble_eq_true rfl) dX10_setDensity_38 (Nat.le_of_ble_eq_true rfl) (Nat.le_of_ble_eq_true rfl)) [0, 1, 2] [] rfl rfl (by decide) (by decide) rfl rfl (fun r_10 u_11 h_12 => ?_)
  obtain ⟨o_13, o_14, o_15⟩ := u_11
  obtain ⟨e_16, e_17, e_18, e_19⟩ : r_10 = f_X10_sets_r S (26 + Nt) ∧ o_13 = f_X10_sets_o0_2 Nn ∧ o_14 = f_X10_sets_o1 S (26 + Nt) p.toInt64 3 ∧ o_15 = f_X10_sets_o2 S P Nn := h_12
  refine sw_eq (ws' := [(h0, .inr (10, [.ref b0, .ref b1, .int o_13, .int 0, .long hh])), (b0, .inl (G.2.1.2, 344, .inr (.inl o_14))), (b1, .inl (G.2.1.2, 1032, .inr (.inl o_15)))]) (lv' := [(0, .ref h0), (1, .int t), (2, .int p)]) (st' := [.int r_10]) rfl rfl rfl ?_
  refine sw_goto (pc := 41) (tgt := 49) F dX10_setDensity_41 (by decide) ?_
  subst e_19
  subst e_18
  subst e_17
  subst e_16
  subst ex_9
  subst e_8
  subst e_4
  exact sw_iret (pc := 49) F T rfl rfl ((f_X10_sets_o0_2 Nn), (f_X10_sets_o1 S (26 + Nt) p.toInt64 3), (f_X10_sets_o2 S P Nn)) ⟨rfl, rfl, rfl, rfl⟩ rfl dX10_setDensity_49
def f_X10_setFactor_o0_2 (Nn : Nat) : Int32 := (f_X10_sets_o0_2 Nn)
def f_X10_setFactor_o1 (S : Nat → Int64) (Nt : Nat) (p : Int32) : Nat → Int64 := (f_X10_sets_o1 S (32 + Nt) p.toInt64 4)
def f_X10_setFactor_o2 (S : Nat → Int64) (P : Nat → Int64) (Nn : Nat) : Nat → Int64 := (f_X10_sets_o2 S P Nn)
def f_X10_setFactor_r (S : Nat → Int64) (Nt : Nat) : Int32 := (f_X10_sets_r S (32 + Nt))
set_option maxHeartbeats 4000000 in
set_option maxRecDepth 100000 in
theorem k_X10_setFactor (l : Launch) (G : sw_E) (h0 : Nat) (b0 : Nat) (b1 : Nat) (np : Int32) (th : Int32) (hh : Int64) (S : Nat → Int64) (P : Nat → Int64) (Nn : Nat) (t : Int32) (Nt : Nat) (p : Int32) (hnp : np = nI Nn) (hNn : Nn < 4) (ht : t = nI Nt) (hNt : Nt < 5) (hj0 : ¬ t.toInt64 < 0) (hj1 : t.toInt64 ≤ 4) (hp0 : ¬ p.toInt64 < 9000) (hp1 : p.toInt64 ≤ 11000) (hc : 0 ≤ (S 253).toInt ∧ (S 253).toInt ≤ 30) : sw_M l G yX10_setFactor wsX10_setFactor ({ frames := 3, cells := 0, slots := 0, locals := 73 } : Room) [.ref h0, .int t, .int p] [(h0, .inr (10, [.ref b0, .ref b1, .int np, .int th, .long hh])), (b0, .inl (G.2.1.2, 344, .inr (.inl S))), (b1, .inl (G.2.1.2, 1032, .inr (.inl P)))] (sw_QI G (S := Int32 × (Nat → Int64) × (Nat → Int64)) (fun (r : Int32) (u : Int32 × (Nat → Int64) × (Nat → Int64)) => r = f_X10_setFactor_r S Nt ∧ u.1 = f_X10_setFactor_o0_2 Nn ∧ u.2.1 = f_X10_setFactor_o1 S Nt p ∧ u.2.2 = f_X10_setFactor_o2 S P Nn) (fun u => [(h0, .inr (10, [.ref b0, .ref b1, .int u.1, .int 0, .long hh])), (b0, .inl (G.2.1.2, 344, .inr (.inl u.2.1))), (b1, .inl (G.2.1.2, 1032, .inr (.inl u.2.2)))])) 0 0 := by
  refine sw_start (cc := cX10_setFactor) (maxL := 3) (ret := some .int) (lv := [(0, .ref h0), (1, .int t), (2, .int p)]) (own := RX10) (nm := "setFactor") (by decide +kernel) rfl rfl rfl rfl (Nat.le_of_ble_eq_true rfl) (fun C F T => ?_)
  refine sw_iload_n (pc := 0) F dX10_setFactor_0 rfl 1 rfl ?_
  refine sw_i2l (pc := 1) F dX10_setFactor_1 rfl ?_
  refine sw_lconst (pc := 2) (v := 0) F dX10_setFactor_2 rfl ?_
  refine sw_ldc2 (pc := 3) (v := 4) F (List.mem_of_getElem? (i := 1) rfl) dX10_setFactor_3 ?_
  refine sw_calli (pc := 6) (wr := [(h0, .inr (10, [.ref b0, .ref b1, .int np, .int th, .long hh])), (b0, .inl (G.2.1.2, 344, .inr (.inl S))), (b1, .inl (G.2.1.2, 1032, .inr (.inl P)))]) (k' := 0) (n' := 0) F (sw_runS (R := ({ frames := 3, cells := 0, slots := 0, locals := 73 } : Room)) (na := 3) F T.2.1 T.2.2.1 (k_X10_in l G t.toInt64 0 4) [] rfl (by decide) gX10_setFactor_X10_in rfl rfl rfl (by decide +kernel) ⟨Nat.le_of_ble_eq_true rfl, Nat.le_of_ble_eq_true rfl⟩ rfl rfl (Nat.le_of_ble_eq_true rfl) dX10_setFactor_6 (Nat.le_of_ble_eq_true rfl) (Nat.le_of_ble_eq_true rfl)) [] [0, 1, 2] rfl rfl (by decide) (by decide) rfl rfl (fun r_1 u_2 h_3 => ?_)
  have e_4 : r_1 = f_X10_in_r t.toInt64 0 4 := h_3
  refine sw_eq (ws' := [(h0, .inr (10, [.ref b0, .ref b1, .int np, .int th, .long hh])), (b0, .inl (G.2.1.2, 344, .inr (.inl S))), (b1, .inl (G.2.1.2, 1032, .inr (.inl P)))]) (lv' := [(0, .ref h0), (1, .int t), (2, .int p)]) (st' := [.int r_1]) rfl rfl rfl ?_
  refine sw_if_ne (pc := 9) (tgt := 18) F dX10_setFactor_9 (by decide) (fun _ => ?_) (fun c => absurd c (by rw [e_4]; exact in_1 (by assumption) (by assumption)))
  refine sw_iload_n (pc := 18) F dX10_setFactor_18 rfl 2 rfl ?_
  refine sw_i2l (pc := 19) F dX10_setFactor_19 rfl ?_
  refine sw_ldc2 (pc := 20) (v := 9000) F (List.mem_of_getElem? (i := 2) rfl) dX10_setFactor_20 ?_
  refine sw_ldc2 (pc := 23) (v := 11000) F (List.mem_of_getElem? (i := 3) rfl) dX10_setFactor_23 ?_
  refine sw_calli (pc := 26) (wr := [(h0, .inr (10, [.ref b0, .ref b1, .int np, .int th, .long hh])), (b0, .inl (G.2.1.2, 344, .inr (.inl S))), (b1, .inl (G.2.1.2, 1032, .inr (.inl P)))]) (k' := 0) (n' := 0) F (sw_runS (R := ({ frames := 3, cells := 0, slots := 0, locals := 73 } : Room)) (na := 3) F T.2.1 T.2.2.1 (k_X10_in l G p.toInt64 9000 11000) [] rfl (by decide) gX10_setFactor_X10_in rfl rfl rfl (by decide +kernel) ⟨Nat.le_of_ble_eq_true rfl, Nat.le_of_ble_eq_true rfl⟩ rfl rfl (Nat.le_of_ble_eq_true rfl) dX10_setFactor_26 (Nat.le_of_ble_eq_true rfl) (Nat.le_of_ble_eq_true rfl)) [] [0, 1, 2] rfl rfl (by decide) (by decide) rfl rfl (fun r_5 u_6 h_7 => ?_)
  have e_8 : r_5 = f_X10_in_r p.toInt64 9000 11000 := h_7
  refine sw_eq (ws' := [(h0, .inr (10, [.ref b0, .ref b1, .int np, .int th, .long hh])), (b0, .inl (G.2.1.2, 344, .inr (.inl S))), (b1, .inl (G.2.1.2, 1032, .inr (.inl P)))]) (lv' := [(0, .ref h0), (1, .int t), (2, .int p)]) (st' := [.int r_5]) rfl rfl rfl ?_
  refine sw_if_eq (pc := 29) (tgt := 46) F dX10_setFactor_29 (by decide) (fun c => absurd c (by rw [e_8]; exact in_1 (by assumption) (by assumption))) (fun _ => ?_)
  refine sw_aload_n (pc := 32) F dX10_setFactor_32 rfl 0 rfl ?_
  refine sw_bipush (pc := 33) (v := 32) F dX10_setFactor_33 rfl ?_
  refine sw_iload_n (pc := 35) F dX10_setFactor_35 rfl 1 rfl ?_
  refine sw_iadd (pc := 36) F dX10_setFactor_36 ?_
  refine sw_topi (fun x_9 ex_9 => ?_)
  have ix_9 : x_9 = nI (32 + Nt) := by rw [ex_9, ht]; exact nI_add 32 Nt
  refine sw_iload_n (pc := 37) F dX10_setFactor_37 rfl 2 rfl ?_
  refine sw_i2l (pc := 38) F dX10_setFactor_38 rfl ?_
  refine sw_iconst (pc := 39) (v := 4) F dX10_setFactor_39 rfl ?_
  refine sw_calli (pc := 40) (wr := []) (k' := 0) (n' := 0) F (sw_runV (R := ({ frames := 3, cells := 0, slots := 0, locals := 73 } : Room)) (q0 := 0) (na := 3) F T.2.1 T.2.2.1 (k_X10_sets l G h0 b0 b1 np th hh S P Nn x_9 (32 + Nt) p.toInt64 4 hnp (by omega) ix_9 (by omega) (by assumption)) [0, 1, 2] rfl (by decide) gX10_setFactor_X10_sets rfl rfl rfl (by decide +kernel) ⟨Nat.le_of_ble_eq_true rfl, Nat.le_of_ble_eq_true rfl⟩ rfl rfl rfl rfl rfl (Nat.le_of_ble_eq_true rfl) dX10_setFactor_40 (Nat.le_of_ble_eq_true rfl) (Nat.le_of_ble_eq_true rfl)) [0, 1, 2] [] rfl rfl (by decide) (by decide) rfl rfl (fun r_10 u_11 h_12 => ?_)
  obtain ⟨o_13, o_14, o_15⟩ := u_11
  obtain ⟨e_16, e_17, e_18, e_19⟩ : r_10 = f_X10_sets_r S (32 + Nt) ∧ o_13 = f_X10_sets_o0_2 Nn ∧ o_14 = f_X10_sets_o1 S (32 + Nt) p.toInt64 4 ∧ o_15 = f_X10_sets_o2 S P Nn := h_12
  refine sw_eq (ws' := [(h0, .inr (10, [.ref b0, .ref b1, .int o_13, .int 0, .long hh])), (b0, .inl (G.2.1.2, 344, .inr (.inl o_14))), (b1, .inl (G.2.1.2, 1032, .inr (.inl o_15)))]) (lv' := [(0, .ref h0), (1, .int t), (2, .int p)]) (st' := [.int r_10]) rfl rfl rfl ?_
  refine sw_goto (pc := 43) (tgt := 51) F dX10_setFactor_43 (by decide) ?_
  subst e_19
  subst e_18
  subst e_17
  subst e_16
  subst ex_9
  subst e_8
  subst e_4
  exact sw_iret (pc := 51) F T rfl rfl ((f_X10_sets_o0_2 Nn), (f_X10_sets_o1 S (32 + Nt) p.toInt64 4), (f_X10_sets_o2 S P Nn)) ⟨rfl, rfl, rfl, rfl⟩ rfl dX10_setFactor_51
def f_X10_setMode_o0_2 (Nn : Nat) : Int32 := (f_X10_sets_o0_2 Nn)
def f_X10_setMode_o1 (S : Nat → Int64) (p : Int32) : Nat → Int64 := (f_X10_sets_o1 S 1 p.toInt64 2)
def f_X10_setMode_o2 (S : Nat → Int64) (P : Nat → Int64) (Nn : Nat) : Nat → Int64 := (f_X10_sets_o2 S P Nn)
def f_X10_setMode_r (S : Nat → Int64) : Int32 := (f_X10_sets_r S 1)
set_option maxHeartbeats 4000000 in
set_option maxRecDepth 100000 in
theorem k_X10_setMode (l : Launch) (G : sw_E) (h0 : Nat) (b0 : Nat) (b1 : Nat) (np : Int32) (th : Int32) (hh : Int64) (S : Nat → Int64) (P : Nat → Int64) (Nn : Nat) (p : Int32) (hnp : np = nI Nn) (hNn : Nn < 4) (hp0 : ¬ p.toInt64 < 0) (hp1 : p.toInt64 ≤ 1) (hc : 0 ≤ (S 253).toInt ∧ (S 253).toInt ≤ 30) : sw_M l G yX10_setMode wsX10_setMode ({ frames := 3, cells := 0, slots := 0, locals := 73 } : Room) [.ref h0, .int p] [(h0, .inr (10, [.ref b0, .ref b1, .int np, .int th, .long hh])), (b0, .inl (G.2.1.2, 344, .inr (.inl S))), (b1, .inl (G.2.1.2, 1032, .inr (.inl P)))] (sw_QI G (S := Int32 × (Nat → Int64) × (Nat → Int64)) (fun (r : Int32) (u : Int32 × (Nat → Int64) × (Nat → Int64)) => r = f_X10_setMode_r S ∧ u.1 = f_X10_setMode_o0_2 Nn ∧ u.2.1 = f_X10_setMode_o1 S p ∧ u.2.2 = f_X10_setMode_o2 S P Nn) (fun u => [(h0, .inr (10, [.ref b0, .ref b1, .int u.1, .int 0, .long hh])), (b0, .inl (G.2.1.2, 344, .inr (.inl u.2.1))), (b1, .inl (G.2.1.2, 1032, .inr (.inl u.2.2)))])) 0 0 := by
  refine sw_start (cc := cX10_setMode) (maxL := 2) (ret := some .int) (lv := [(0, .ref h0), (1, .int p)]) (own := RX10) (nm := "setMode") (by decide +kernel) rfl rfl rfl rfl (Nat.le_of_ble_eq_true rfl) (fun C F T => ?_)
  refine sw_iload_n (pc := 0) F dX10_setMode_0 rfl 1 rfl ?_
  refine sw_i2l (pc := 1) F dX10_setMode_1 rfl ?_
  refine sw_lconst (pc := 2) (v := 0) F dX10_setMode_2 rfl ?_
  refine sw_lconst (pc := 3) (v := 1) F dX10_setMode_3 rfl ?_
  refine sw_calli (pc := 4) (wr := [(h0, .inr (10, [.ref b0, .ref b1, .int np, .int th, .long hh])), (b0, .inl (G.2.1.2, 344, .inr (.inl S))), (b1, .inl (G.2.1.2, 1032, .inr (.inl P)))]) (k' := 0) (n' := 0) F (sw_runS (R := ({ frames := 3, cells := 0, slots := 0, locals := 73 } : Room)) (na := 3) F T.2.1 T.2.2.1 (k_X10_in l G p.toInt64 0 1) [] rfl (by decide) gX10_setMode_X10_in rfl rfl rfl (by decide +kernel) ⟨Nat.le_of_ble_eq_true rfl, Nat.le_of_ble_eq_true rfl⟩ rfl rfl (Nat.le_of_ble_eq_true rfl) dX10_setMode_4 (Nat.le_of_ble_eq_true rfl) (Nat.le_of_ble_eq_true rfl)) [] [0, 1, 2] rfl rfl (by decide) (by decide) rfl rfl (fun r_1 u_2 h_3 => ?_)
  have e_4 : r_1 = f_X10_in_r p.toInt64 0 1 := h_3
  refine sw_eq (ws' := [(h0, .inr (10, [.ref b0, .ref b1, .int np, .int th, .long hh])), (b0, .inl (G.2.1.2, 344, .inr (.inl S))), (b1, .inl (G.2.1.2, 1032, .inr (.inl P)))]) (lv' := [(0, .ref h0), (1, .int p)]) (st' := [.int r_1]) rfl rfl rfl ?_
  refine sw_if_eq (pc := 7) (tgt := 21) F dX10_setMode_7 (by decide) (fun c => absurd c (by rw [e_4]; exact in_1 (by assumption) (by assumption))) (fun _ => ?_)
  refine sw_aload_n (pc := 10) F dX10_setMode_10 rfl 0 rfl ?_
  refine sw_iconst (pc := 11) (v := 1) F dX10_setMode_11 rfl ?_
  refine sw_iload_n (pc := 12) F dX10_setMode_12 rfl 1 rfl ?_
  refine sw_i2l (pc := 13) F dX10_setMode_13 rfl ?_
  refine sw_iconst (pc := 14) (v := 2) F dX10_setMode_14 rfl ?_
  refine sw_calli (pc := 15) (wr := []) (k' := 0) (n' := 0) F (sw_runV (R := ({ frames := 3, cells := 0, slots := 0, locals := 73 } : Room)) (q0 := 0) (na := 3) F T.2.1 T.2.2.1 (k_X10_sets l G h0 b0 b1 np th hh S P Nn 1 1 p.toInt64 2 hnp (by omega) rfl (by omega) (by assumption)) [0, 1, 2] rfl (by decide) gX10_setMode_X10_sets rfl rfl rfl (by decide +kernel) ⟨Nat.le_of_ble_eq_true rfl, Nat.le_of_ble_eq_true rfl⟩ rfl rfl rfl rfl rfl (Nat.le_of_ble_eq_true rfl) dX10_setMode_15 (Nat.le_of_ble_eq_true rfl) (Nat.le_of_ble_eq_true rfl)) [0, 1, 2] [] rfl rfl (by decide) (by decide) rfl rfl (fun r_5 u_6 h_7 => ?_)
  obtain ⟨o_8, o_9, o_10⟩ := u_6
  obtain ⟨e_11, e_12, e_13, e_14⟩ : r_5 = f_X10_sets_r S 1 ∧ o_8 = f_X10_sets_o0_2 Nn ∧ o_9 = f_X10_sets_o1 S 1 p.toInt64 2 ∧ o_10 = f_X10_sets_o2 S P Nn := h_7
  refine sw_eq (ws' := [(h0, .inr (10, [.ref b0, .ref b1, .int o_8, .int 0, .long hh])), (b0, .inl (G.2.1.2, 344, .inr (.inl o_9))), (b1, .inl (G.2.1.2, 1032, .inr (.inl o_10)))]) (lv' := [(0, .ref h0), (1, .int p)]) (st' := [.int r_5]) rfl rfl rfl ?_
  refine sw_goto (pc := 18) (tgt := 26) F dX10_setMode_18 (by decide) ?_
  subst e_14
  subst e_13
  subst e_12
  subst e_11
  subst e_4
  exact sw_iret (pc := 26) F T rfl rfl ((f_X10_sets_o0_2 Nn), (f_X10_sets_o1 S 1 p.toInt64 2), (f_X10_sets_o2 S P Nn)) ⟨rfl, rfl, rfl, rfl⟩ rfl dX10_setMode_26
def f_X10_setMeter_o0_2 (Nn : Nat) : Int32 := (f_X10_sets_o0_2 Nn)
def f_X10_setMeter_o1 (S : Nat → Int64) (p : Int32) : Nat → Int64 := (f_X10_sets_o1 S 2 p.toInt64 5)
def f_X10_setMeter_o2 (S : Nat → Int64) (P : Nat → Int64) (Nn : Nat) : Nat → Int64 := (f_X10_sets_o2 S P Nn)
def f_X10_setMeter_r (S : Nat → Int64) : Int32 := (f_X10_sets_r S 2)
set_option maxHeartbeats 4000000 in
set_option maxRecDepth 100000 in
theorem k_X10_setMeter (l : Launch) (G : sw_E) (h0 : Nat) (b0 : Nat) (b1 : Nat) (np : Int32) (th : Int32) (hh : Int64) (S : Nat → Int64) (P : Nat → Int64) (Nn : Nat) (p : Int32) (hnp : np = nI Nn) (hNn : Nn < 4) (hp0 : ¬ p.toInt64 < 1) (hp1 : p.toInt64 ≤ 100000) (hc : 0 ≤ (S 253).toInt ∧ (S 253).toInt ≤ 30) : sw_M l G yX10_setMeter wsX10_setMeter ({ frames := 3, cells := 0, slots := 0, locals := 73 } : Room) [.ref h0, .int p] [(h0, .inr (10, [.ref b0, .ref b1, .int np, .int th, .long hh])), (b0, .inl (G.2.1.2, 344, .inr (.inl S))), (b1, .inl (G.2.1.2, 1032, .inr (.inl P)))] (sw_QI G (S := Int32 × (Nat → Int64) × (Nat → Int64)) (fun (r : Int32) (u : Int32 × (Nat → Int64) × (Nat → Int64)) => r = f_X10_setMeter_r S ∧ u.1 = f_X10_setMeter_o0_2 Nn ∧ u.2.1 = f_X10_setMeter_o1 S p ∧ u.2.2 = f_X10_setMeter_o2 S P Nn) (fun u => [(h0, .inr (10, [.ref b0, .ref b1, .int u.1, .int 0, .long hh])), (b0, .inl (G.2.1.2, 344, .inr (.inl u.2.1))), (b1, .inl (G.2.1.2, 1032, .inr (.inl u.2.2)))])) 0 0 := by
  refine sw_start (cc := cX10_setMeter) (maxL := 2) (ret := some .int) (lv := [(0, .ref h0), (1, .int p)]) (own := RX10) (nm := "setMeter") (by decide +kernel) rfl rfl rfl rfl (Nat.le_of_ble_eq_true rfl) (fun C F T => ?_)
  refine sw_iload_n (pc := 0) F dX10_setMeter_0 rfl 1 rfl ?_
  refine sw_i2l (pc := 1) F dX10_setMeter_1 rfl ?_
  refine sw_lconst (pc := 2) (v := 1) F dX10_setMeter_2 rfl ?_
  refine sw_ldc2 (pc := 3) (v := 100000) F (List.mem_of_getElem? (i := 1) rfl) dX10_setMeter_3 ?_
  refine sw_calli (pc := 6) (wr := [(h0, .inr (10, [.ref b0, .ref b1, .int np, .int th, .long hh])), (b0, .inl (G.2.1.2, 344, .inr (.inl S))), (b1, .inl (G.2.1.2, 1032, .inr (.inl P)))]) (k' := 0) (n' := 0) F (sw_runS (R := ({ frames := 3, cells := 0, slots := 0, locals := 73 } : Room)) (na := 3) F T.2.1 T.2.2.1 (k_X10_in l G p.toInt64 1 100000) [] rfl (by decide) gX10_setMeter_X10_in rfl rfl rfl (by decide +kernel) ⟨Nat.le_of_ble_eq_true rfl, Nat.le_of_ble_eq_true rfl⟩ rfl rfl (Nat.le_of_ble_eq_true rfl) dX10_setMeter_6 (Nat.le_of_ble_eq_true rfl) (Nat.le_of_ble_eq_true rfl)) [] [0, 1, 2] rfl rfl (by decide) (by decide) rfl rfl (fun r_1 u_2 h_3 => ?_)
  have e_4 : r_1 = f_X10_in_r p.toInt64 1 100000 := h_3
  refine sw_eq (ws' := [(h0, .inr (10, [.ref b0, .ref b1, .int np, .int th, .long hh])), (b0, .inl (G.2.1.2, 344, .inr (.inl S))), (b1, .inl (G.2.1.2, 1032, .inr (.inl P)))]) (lv' := [(0, .ref h0), (1, .int p)]) (st' := [.int r_1]) rfl rfl rfl ?_
  refine sw_if_eq (pc := 9) (tgt := 23) F dX10_setMeter_9 (by decide) (fun c => absurd c (by rw [e_4]; exact in_1 (by assumption) (by assumption))) (fun _ => ?_)
  refine sw_aload_n (pc := 12) F dX10_setMeter_12 rfl 0 rfl ?_
  refine sw_iconst (pc := 13) (v := 2) F dX10_setMeter_13 rfl ?_
  refine sw_iload_n (pc := 14) F dX10_setMeter_14 rfl 1 rfl ?_
  refine sw_i2l (pc := 15) F dX10_setMeter_15 rfl ?_
  refine sw_iconst (pc := 16) (v := 5) F dX10_setMeter_16 rfl ?_
  refine sw_calli (pc := 17) (wr := []) (k' := 0) (n' := 0) F (sw_runV (R := ({ frames := 3, cells := 0, slots := 0, locals := 73 } : Room)) (q0 := 0) (na := 3) F T.2.1 T.2.2.1 (k_X10_sets l G h0 b0 b1 np th hh S P Nn 2 2 p.toInt64 5 hnp (by omega) rfl (by omega) (by assumption)) [0, 1, 2] rfl (by decide) gX10_setMeter_X10_sets rfl rfl rfl (by decide +kernel) ⟨Nat.le_of_ble_eq_true rfl, Nat.le_of_ble_eq_true rfl⟩ rfl rfl rfl rfl rfl (Nat.le_of_ble_eq_true rfl) dX10_setMeter_17 (Nat.le_of_ble_eq_true rfl) (Nat.le_of_ble_eq_true rfl)) [0, 1, 2] [] rfl rfl (by decide) (by decide) rfl rfl (fun r_5 u_6 h_7 => ?_)
  obtain ⟨o_8, o_9, o_10⟩ := u_6
  obtain ⟨e_11, e_12, e_13, e_14⟩ : r_5 = f_X10_sets_r S 2 ∧ o_8 = f_X10_sets_o0_2 Nn ∧ o_9 = f_X10_sets_o1 S 2 p.toInt64 5 ∧ o_10 = f_X10_sets_o2 S P Nn := h_7
  refine sw_eq (ws' := [(h0, .inr (10, [.ref b0, .ref b1, .int o_8, .int 0, .long hh])), (b0, .inl (G.2.1.2, 344, .inr (.inl o_9))), (b1, .inl (G.2.1.2, 1032, .inr (.inl o_10)))]) (lv' := [(0, .ref h0), (1, .int p)]) (st' := [.int r_5]) rfl rfl rfl ?_
  refine sw_goto (pc := 20) (tgt := 28) F dX10_setMeter_20 (by decide) ?_
  subst e_14
  subst e_13
  subst e_12
  subst e_11
  subst e_4
  exact sw_iret (pc := 28) F T rfl rfl ((f_X10_sets_o0_2 Nn), (f_X10_sets_o1 S 2 p.toInt64 5), (f_X10_sets_o2 S P Nn)) ⟨rfl, rfl, rfl, rfl⟩ rfl dX10_setMeter_28
def f_X10_setContractHour_o0_2 (Nn : Nat) : Int32 := (f_X10_sets_o0_2 Nn)
def f_X10_setContractHour_o1 (S : Nat → Int64) (p : Int32) : Nat → Int64 := (f_X10_sets_o1 S 5 p.toInt64 7)
def f_X10_setContractHour_o2 (S : Nat → Int64) (P : Nat → Int64) (Nn : Nat) : Nat → Int64 := (f_X10_sets_o2 S P Nn)
def f_X10_setContractHour_r (S : Nat → Int64) : Int32 := (f_X10_sets_r S 5)
set_option maxHeartbeats 4000000 in
set_option maxRecDepth 100000 in
theorem k_X10_setContractHour (l : Launch) (G : sw_E) (h0 : Nat) (b0 : Nat) (b1 : Nat) (np : Int32) (th : Int32) (hh : Int64) (S : Nat → Int64) (P : Nat → Int64) (Nn : Nat) (p : Int32) (hnp : np = nI Nn) (hNn : Nn < 4) (hp0 : ¬ p.toInt64 < 0) (hp1 : p.toInt64 ≤ 23) (hc : 0 ≤ (S 253).toInt ∧ (S 253).toInt ≤ 30) : sw_M l G yX10_setContractHour wsX10_setContractHour ({ frames := 3, cells := 0, slots := 0, locals := 73 } : Room) [.ref h0, .int p] [(h0, .inr (10, [.ref b0, .ref b1, .int np, .int th, .long hh])), (b0, .inl (G.2.1.2, 344, .inr (.inl S))), (b1, .inl (G.2.1.2, 1032, .inr (.inl P)))] (sw_QI G (S := Int32 × (Nat → Int64) × (Nat → Int64)) (fun (r : Int32) (u : Int32 × (Nat → Int64) × (Nat → Int64)) => r = f_X10_setContractHour_r S ∧ u.1 = f_X10_setContractHour_o0_2 Nn ∧ u.2.1 = f_X10_setContractHour_o1 S p ∧ u.2.2 = f_X10_setContractHour_o2 S P Nn) (fun u => [(h0, .inr (10, [.ref b0, .ref b1, .int u.1, .int 0, .long hh])), (b0, .inl (G.2.1.2, 344, .inr (.inl u.2.1))), (b1, .inl (G.2.1.2, 1032, .inr (.inl u.2.2)))])) 0 0 := by
  refine sw_start (cc := cX10_setContractHour) (maxL := 2) (ret := some .int) (lv := [(0, .ref h0), (1, .int p)]) (own := RX10) (nm := "setContractHour") (by decide +kernel) rfl rfl rfl rfl (Nat.le_of_ble_eq_true rfl) (fun C F T => ?_)
  refine sw_iload_n (pc := 0) F dX10_setContractHour_0 rfl 1 rfl ?_
  refine sw_i2l (pc := 1) F dX10_setContractHour_1 rfl ?_
  refine sw_lconst (pc := 2) (v := 0) F dX10_setContractHour_2 rfl ?_
  refine sw_ldc2 (pc := 3) (v := 23) F (List.mem_of_getElem? (i := 1) rfl) dX10_setContractHour_3 ?_
  refine sw_calli (pc := 6) (wr := [(h0, .inr (10, [.ref b0, .ref b1, .int np, .int th, .long hh])), (b0, .inl (G.2.1.2, 344, .inr (.inl S))), (b1, .inl (G.2.1.2, 1032, .inr (.inl P)))]) (k' := 0) (n' := 0) F (sw_runS (R := ({ frames := 3, cells := 0, slots := 0, locals := 73 } : Room)) (na := 3) F T.2.1 T.2.2.1 (k_X10_in l G p.toInt64 0 23) [] rfl (by decide) gX10_setContractHour_X10_in rfl rfl rfl (by decide +kernel) ⟨Nat.le_of_ble_eq_true rfl, Nat.le_of_ble_eq_true rfl⟩ rfl rfl (Nat.le_of_ble_eq_true rfl) dX10_setContractHour_6 (Nat.le_of_ble_eq_true rfl) (Nat.le_of_ble_eq_true rfl)) [] [0, 1, 2] rfl rfl (by decide) (by decide) rfl rfl (fun r_1 u_2 h_3 => ?_)
  have e_4 : r_1 = f_X10_in_r p.toInt64 0 23 := h_3
  refine sw_eq (ws' := [(h0, .inr (10, [.ref b0, .ref b1, .int np, .int th, .long hh])), (b0, .inl (G.2.1.2, 344, .inr (.inl S))), (b1, .inl (G.2.1.2, 1032, .inr (.inl P)))]) (lv' := [(0, .ref h0), (1, .int p)]) (st' := [.int r_1]) rfl rfl rfl ?_
  refine sw_if_eq (pc := 9) (tgt := 24) F dX10_setContractHour_9 (by decide) (fun c => absurd c (by rw [e_4]; exact in_1 (by assumption) (by assumption))) (fun _ => ?_)
  refine sw_aload_n (pc := 12) F dX10_setContractHour_12 rfl 0 rfl ?_
  refine sw_iconst (pc := 13) (v := 5) F dX10_setContractHour_13 rfl ?_
  refine sw_iload_n (pc := 14) F dX10_setContractHour_14 rfl 1 rfl ?_
  refine sw_i2l (pc := 15) F dX10_setContractHour_15 rfl ?_
  refine sw_bipush (pc := 16) (v := 7) F dX10_setContractHour_16 rfl ?_
  refine sw_calli (pc := 18) (wr := []) (k' := 0) (n' := 0) F (sw_runV (R := ({ frames := 3, cells := 0, slots := 0, locals := 73 } : Room)) (q0 := 0) (na := 3) F T.2.1 T.2.2.1 (k_X10_sets l G h0 b0 b1 np th hh S P Nn 5 5 p.toInt64 7 hnp (by omega) rfl (by omega) (by assumption)) [0, 1, 2] rfl (by decide) gX10_setContractHour_X10_sets rfl rfl rfl (by decide +kernel) ⟨Nat.le_of_ble_eq_true rfl, Nat.le_of_ble_eq_true rfl⟩ rfl rfl rfl rfl rfl (Nat.le_of_ble_eq_true rfl) dX10_setContractHour_18 (Nat.le_of_ble_eq_true rfl) (Nat.le_of_ble_eq_true rfl)) [0, 1, 2] [] rfl rfl (by decide) (by decide) rfl rfl (fun r_5 u_6 h_7 => ?_)
  obtain ⟨o_8, o_9, o_10⟩ := u_6
  obtain ⟨e_11, e_12, e_13, e_14⟩ : r_5 = f_X10_sets_r S 5 ∧ o_8 = f_X10_sets_o0_2 Nn ∧ o_9 = f_X10_sets_o1 S 5 p.toInt64 7 ∧ o_10 = f_X10_sets_o2 S P Nn := h_7
  refine sw_eq (ws' := [(h0, .inr (10, [.ref b0, .ref b1, .int o_8, .int 0, .long hh])), (b0, .inl (G.2.1.2, 344, .inr (.inl o_9))), (b1, .inl (G.2.1.2, 1032, .inr (.inl o_10)))]) (lv' := [(0, .ref h0), (1, .int p)]) (st' := [.int r_5]) rfl rfl rfl ?_
  refine sw_goto (pc := 21) (tgt := 29) F dX10_setContractHour_21 (by decide) ?_
  subst e_14
  subst e_13
  subst e_12
  subst e_11
  subst e_4
  exact sw_iret (pc := 29) F T rfl rfl ((f_X10_sets_o0_2 Nn), (f_X10_sets_o1 S 5 p.toInt64 7), (f_X10_sets_o2 S P Nn)) ⟨rfl, rfl, rfl, rfl⟩ rfl dX10_setContractHour_29
def f_X10_setCutoff_o0_2 (Nn : Nat) : Int32 := (f_X10_sets_o0_2 Nn)
def f_X10_setCutoff_o1 (S : Nat → Int64) (p : Int32) (q : Int32) : Nat → Int64 := (vp_updL (f_X10_sets_o1 S 3 p.toInt64 6) 4 q.toInt64)
def f_X10_setCutoff_o2 (S : Nat → Int64) (P : Nat → Int64) (Nn : Nat) : Nat → Int64 := (f_X10_sets_o2 S P Nn)
def f_X10_setCutoff_r (S : Nat → Int64) : Int32 := (f_X10_sets_r S 3)
set_option maxHeartbeats 4000000 in
set_option maxRecDepth 100000 in
theorem k_X10_setCutoff (l : Launch) (G : sw_E) (h0 : Nat) (b0 : Nat) (b1 : Nat) (np : Int32) (th : Int32) (hh : Int64) (S : Nat → Int64) (P : Nat → Int64) (Nn : Nat) (p : Int32) (q : Int32) (hnp : np = nI Nn) (hNn : Nn < 4) (hp0 : ¬ p.toInt64 < 0) (hp1 : p.toInt64 ≤ q.toInt64) (hp2 : ¬ q.toInt64 < p.toInt64) (hq1 : q.toInt64 ≤ 100000) (hc : 0 ≤ (S 253).toInt ∧ (S 253).toInt ≤ 30) : sw_M l G yX10_setCutoff wsX10_setCutoff ({ frames := 3, cells := 0, slots := 0, locals := 73 } : Room) [.ref h0, .int p, .int q] [(h0, .inr (10, [.ref b0, .ref b1, .int np, .int th, .long hh])), (b0, .inl (G.2.1.2, 344, .inr (.inl S))), (b1, .inl (G.2.1.2, 1032, .inr (.inl P)))] (sw_QI G (S := Int32 × (Nat → Int64) × (Nat → Int64)) (fun (r : Int32) (u : Int32 × (Nat → Int64) × (Nat → Int64)) => r = f_X10_setCutoff_r S ∧ u.1 = f_X10_setCutoff_o0_2 Nn ∧ u.2.1 = f_X10_setCutoff_o1 S p q ∧ u.2.2 = f_X10_setCutoff_o2 S P Nn) (fun u => [(h0, .inr (10, [.ref b0, .ref b1, .int u.1, .int 0, .long hh])), (b0, .inl (G.2.1.2, 344, .inr (.inl u.2.1))), (b1, .inl (G.2.1.2, 1032, .inr (.inl u.2.2)))])) 0 0 := by
  refine sw_start (cc := cX10_setCutoff) (maxL := 4) (ret := some .int) (lv := [(0, .ref h0), (1, .int p), (2, .int q)]) (own := RX10) (nm := "setCutoff") (by decide +kernel) rfl rfl rfl rfl (Nat.le_of_ble_eq_true rfl) (fun C F T => ?_)
  have in10 : ∀ w ∈ u_ws RX10 TX10 5, w ∈ wsX10_setCutoff := fun w h => List.mem_cons_of_mem _ (List.mem_append_right _ (h))
  refine sw_iload_n (pc := 0) F dX10_setCutoff_0 rfl 1 rfl ?_
  refine sw_i2l (pc := 1) F dX10_setCutoff_1 rfl ?_
  refine sw_lconst (pc := 2) (v := 0) F dX10_setCutoff_2 rfl ?_
  refine sw_iload_n (pc := 3) F dX10_setCutoff_3 rfl 2 rfl ?_
  refine sw_i2l (pc := 4) F dX10_setCutoff_4 rfl ?_
  refine sw_calli (pc := 5) (wr := [(h0, .inr (10, [.ref b0, .ref b1, .int np, .int th, .long hh])), (b0, .inl (G.2.1.2, 344, .inr (.inl S))), (b1, .inl (G.2.1.2, 1032, .inr (.inl P)))]) (k' := 0) (n' := 0) F (sw_runS (R := ({ frames := 3, cells := 0, slots := 0, locals := 73 } : Room)) (na := 3) F T.2.1 T.2.2.1 (k_X10_in l G p.toInt64 0 q.toInt64) [] rfl (by decide) gX10_setCutoff_X10_in rfl rfl rfl (by decide +kernel) ⟨Nat.le_of_ble_eq_true rfl, Nat.le_of_ble_eq_true rfl⟩ rfl rfl (Nat.le_of_ble_eq_true rfl) dX10_setCutoff_5 (Nat.le_of_ble_eq_true rfl) (Nat.le_of_ble_eq_true rfl)) [] [0, 1, 2] rfl rfl (by decide) (by decide) rfl rfl (fun r_1 u_2 h_3 => ?_)
  have e_4 : r_1 = f_X10_in_r p.toInt64 0 q.toInt64 := h_3
  refine sw_eq (ws' := [(h0, .inr (10, [.ref b0, .ref b1, .int np, .int th, .long hh])), (b0, .inl (G.2.1.2, 344, .inr (.inl S))), (b1, .inl (G.2.1.2, 1032, .inr (.inl P)))]) (lv' := [(0, .ref h0), (1, .int p), (2, .int q)]) (st' := [.int r_1]) rfl rfl rfl ?_
  refine sw_if_eq (pc := 8) (tgt := 24) F dX10_setCutoff_8 (by decide) (fun c => absurd c (by rw [e_4]; exact in_1 (by assumption) (by assumption))) (fun _ => ?_)
  refine sw_iload_n (pc := 11) F dX10_setCutoff_11 rfl 2 rfl ?_
  refine sw_i2l (pc := 12) F dX10_setCutoff_12 rfl ?_
  refine sw_iload_n (pc := 13) F dX10_setCutoff_13 rfl 1 rfl ?_
  refine sw_i2l (pc := 14) F dX10_setCutoff_14 rfl ?_
  refine sw_ldc2 (pc := 15) (v := 100000) F (List.mem_of_getElem? (i := 1) rfl) dX10_setCutoff_15 ?_
  refine sw_calli (pc := 18) (wr := [(h0, .inr (10, [.ref b0, .ref b1, .int np, .int th, .long hh])), (b0, .inl (G.2.1.2, 344, .inr (.inl S))), (b1, .inl (G.2.1.2, 1032, .inr (.inl P)))]) (k' := 0) (n' := 0) F (sw_runS (R := ({ frames := 3, cells := 0, slots := 0, locals := 73 } : Room)) (na := 3) F T.2.1 T.2.2.1 (k_X10_in l G q.toInt64 p.toInt64 100000) [] rfl (by decide) gX10_setCutoff_X10_in rfl rfl rfl (by decide +kernel) ⟨Nat.le_of_ble_eq_true rfl, Nat.le_of_ble_eq_true rfl⟩ rfl rfl (Nat.le_of_ble_eq_true rfl) dX10_setCutoff_18 (Nat.le_of_ble_eq_true rfl) (Nat.le_of_ble_eq_true rfl)) [] [0, 1, 2] rfl rfl (by decide) (by decide) rfl rfl (fun r_5 u_6 h_7 => ?_)
  have e_8 : r_5 = f_X10_in_r q.toInt64 p.toInt64 100000 := h_7
  refine sw_eq (ws' := [(h0, .inr (10, [.ref b0, .ref b1, .int np, .int th, .long hh])), (b0, .inl (G.2.1.2, 344, .inr (.inl S))), (b1, .inl (G.2.1.2, 1032, .inr (.inl P)))]) (lv' := [(0, .ref h0), (1, .int p), (2, .int q)]) (st' := [.int r_5]) rfl rfl rfl ?_
  refine sw_if_ne (pc := 21) (tgt := 30) F dX10_setCutoff_21 (by decide) (fun _ => ?_) (fun c => absurd c (by rw [e_8]; exact in_1 (by assumption) (by assumption)))
  refine sw_aload_n (pc := 30) F dX10_setCutoff_30 rfl 0 rfl ?_
  refine sw_iconst (pc := 31) (v := 3) F dX10_setCutoff_31 rfl ?_
  refine sw_iload_n (pc := 32) F dX10_setCutoff_32 rfl 1 rfl ?_
  refine sw_i2l (pc := 33) F dX10_setCutoff_33 rfl ?_
  refine sw_bipush (pc := 34) (v := 6) F dX10_setCutoff_34 rfl ?_
  refine sw_calli (pc := 36) (wr := []) (k' := 0) (n' := 0) F (sw_runV (R := ({ frames := 3, cells := 0, slots := 0, locals := 73 } : Room)) (q0 := 0) (na := 3) F T.2.1 T.2.2.1 (k_X10_sets l G h0 b0 b1 np th hh S P Nn 3 3 p.toInt64 6 hnp (by omega) rfl (by omega) (by assumption)) [0, 1, 2] rfl (by decide) gX10_setCutoff_X10_sets rfl rfl rfl (by decide +kernel) ⟨Nat.le_of_ble_eq_true rfl, Nat.le_of_ble_eq_true rfl⟩ rfl rfl rfl rfl rfl (Nat.le_of_ble_eq_true rfl) dX10_setCutoff_36 (Nat.le_of_ble_eq_true rfl) (Nat.le_of_ble_eq_true rfl)) [0, 1, 2] [] rfl rfl (by decide) (by decide) rfl rfl (fun r_9 u_10 h_11 => ?_)
  obtain ⟨o_12, o_13, o_14⟩ := u_10
  obtain ⟨e_15, e_16, e_17, e_18⟩ : r_9 = f_X10_sets_r S 3 ∧ o_12 = f_X10_sets_o0_2 Nn ∧ o_13 = f_X10_sets_o1 S 3 p.toInt64 6 ∧ o_14 = f_X10_sets_o2 S P Nn := h_11
  refine sw_eq (ws' := [(h0, .inr (10, [.ref b0, .ref b1, .int o_12, .int 0, .long hh])), (b0, .inl (G.2.1.2, 344, .inr (.inl o_13))), (b1, .inl (G.2.1.2, 1032, .inr (.inl o_14)))]) (lv' := [(0, .ref h0), (1, .int p), (2, .int q)]) (st' := [.int r_9]) rfl rfl rfl ?_
  refine sw_istore_n (pc := 39) (lv' := [(3, .int r_9), (0, .ref h0), (1, .int p), (2, .int q)]) F T.1 dX10_setCutoff_39 rfl (by decide) rfl ?_
  refine sw_aload_n (pc := 40) F dX10_setCutoff_40 rfl 1 rfl ?_
  refine sw_get (pc := 41) (Cn := RX10) (T := TX10) (N := 5) (ci := 10) (v := .ref b0) F in10 0 rfl rfl 0 (by decide) rfl (List.mem_of_getElem? (i := 2) rfl) rfl dX10_setCutoff_41 ?_
  refine sw_iconst (pc := 44) (v := 4) F dX10_setCutoff_44 rfl ?_
  refine sw_iload_n (pc := 45) F dX10_setCutoff_45 rfl 3 rfl ?_
  refine sw_i2l (pc := 46) F dX10_setCutoff_46 rfl ?_
  obtain ⟨f_19, ef_19⟩ : ∃ y : Nat → Int64, y = vp_updL o_13 4 q.toInt64 := ⟨_, rfl⟩
  refine sw_last (pc := 47) (ws' := [(h0, .inr (10, [.ref b0, .ref b1, .int o_12, .int 0, .long hh])), (b0, .inl (G.2.1.2, 344, .inr (.inl f_19))), (b1, .inl (G.2.1.2, 1032, .inr (.inl o_14)))]) F 1 rfl (sw_in rfl) dX10_setCutoff_47 (by rw [ef_19]; rfl) ?_
  refine sw_iload_n (pc := 48) F dX10_setCutoff_48 rfl 0 rfl ?_
  subst ef_19
  subst e_18
  subst e_17
  subst e_16
  subst e_15
  subst e_8
  subst e_4
  exact sw_iret (pc := 49) F T rfl rfl ((f_X10_sets_o0_2 Nn), (vp_updL (f_X10_sets_o1 S 3 p.toInt64 6) 4 q.toInt64), (f_X10_sets_o2 S P Nn)) ⟨rfl, rfl, rfl, rfl⟩ rfl dX10_setCutoff_49
def f_X10_openBatch_o0_2 (Nn : Nat) : Int32 := (nI (if Nn = 3 then 3 else Nn + 1))
def f_X10_openBatch_o1 (S : Nat → Int64) (p : Int32) (q : Int32) : Nat → Int64 := if q < p then ((vp_updL (vp_updL (vp_updL (vp_updL (vp_updL (vp_updL S 45 1) 44 0) 46 p.toInt64) 47 q.toInt64) 49 2) 48 (((vp_updL (vp_updL (vp_updL (vp_updL (vp_updL S 45 1) 44 0) 46 p.toInt64) 47 q.toInt64) 49 2) 48) + 1))) else ((vp_updL (vp_updL (vp_updL (vp_updL (vp_updL (vp_updL S 45 1) 44 0) 46 p.toInt64) 47 q.toInt64) 49 1) 48 (((vp_updL (vp_updL (vp_updL (vp_updL (vp_updL S 45 1) 44 0) 46 p.toInt64) 47 q.toInt64) 49 1) 48) + 1)))
def f_X10_openBatch_o2 (S : Nat → Int64) (P : Nat → Int64) (Nn : Nat) : Nat → Int64 := (md_save Nn S P)
def f_X10_openBatch_r (S : Nat → Int64) (p : Int32) (q : Int32) : Int32 := if q < p then (((vp_updL (vp_updL (vp_updL (vp_updL (vp_updL (vp_updL S 45 1) 44 0) 46 p.toInt64) 47 q.toInt64) 49 2) 48 (((vp_updL (vp_updL (vp_updL (vp_updL (vp_updL S 45 1) 44 0) 46 p.toInt64) 47 q.toInt64) 49 2) 48) + 1)) 48).toInt32) else (((vp_updL (vp_updL (vp_updL (vp_updL (vp_updL (vp_updL S 45 1) 44 0) 46 p.toInt64) 47 q.toInt64) 49 1) 48 (((vp_updL (vp_updL (vp_updL (vp_updL (vp_updL S 45 1) 44 0) 46 p.toInt64) 47 q.toInt64) 49 1) 48) + 1)) 48).toInt32)
set_option maxHeartbeats 4000000 in
set_option maxRecDepth 100000 in
theorem k_X10_openBatch (l : Launch) (G : sw_E) (h0 : Nat) (b0 : Nat) (b1 : Nat) (np : Int32) (th : Int32) (hh : Int64) (S : Nat → Int64) (P : Nat → Int64) (Nn : Nat) (p : Int32) (q : Int32) (hnp : np = nI Nn) (hNn : Nn < 4) (hp0 : ¬ p.toInt64 < 1) (hp1 : p.toInt64 ≤ 1000000000) (hq0 : ¬ q.toInt64 < 0) (hq1 : q.toInt64 ≤ 1000000000) (ho : ¬ S 45 = 1) : sw_M l G yX10_openBatch wsX10_openBatch ({ frames := 1, cells := 0, slots := 0, locals := 25 } : Room) [.ref h0, .int p, .int q] [(h0, .inr (10, [.ref b0, .ref b1, .int np, .int th, .long hh])), (b0, .inl (G.2.1.2, 344, .inr (.inl S))), (b1, .inl (G.2.1.2, 1032, .inr (.inl P)))] (sw_QI G (S := Int32 × (Nat → Int64) × (Nat → Int64)) (fun (r : Int32) (u : Int32 × (Nat → Int64) × (Nat → Int64)) => r = f_X10_openBatch_r S p q ∧ u.1 = f_X10_openBatch_o0_2 Nn ∧ u.2.1 = f_X10_openBatch_o1 S p q ∧ u.2.2 = f_X10_openBatch_o2 S P Nn) (fun u => [(h0, .inr (10, [.ref b0, .ref b1, .int u.1, .int 0, .long hh])), (b0, .inl (G.2.1.2, 344, .inr (.inl u.2.1))), (b1, .inl (G.2.1.2, 1032, .inr (.inl u.2.2)))])) 0 0 := by
  refine sw_start (cc := cX10_openBatch) (maxL := 3) (ret := some .int) (lv := [(0, .ref h0), (1, .int p), (2, .int q)]) (own := RX10) (nm := "openBatch") (by decide +kernel) rfl rfl rfl rfl (Nat.le_of_ble_eq_true rfl) (fun C F T => ?_)
  have in10 : ∀ w ∈ u_ws RX10 TX10 5, w ∈ wsX10_openBatch := fun w h => List.mem_cons_of_mem _ (List.mem_append_right _ (h))
  refine sw_iload_n (pc := 0) F dX10_openBatch_0 rfl 1 rfl ?_
  refine sw_i2l (pc := 1) F dX10_openBatch_1 rfl ?_
  refine sw_lconst (pc := 2) (v := 1) F dX10_openBatch_2 rfl ?_
  refine sw_ldc2 (pc := 3) (v := 1000000000) F (List.mem_of_getElem? (i := 1) rfl) dX10_openBatch_3 ?_
  refine sw_calli (pc := 6) (wr := [(h0, .inr (10, [.ref b0, .ref b1, .int np, .int th, .long hh])), (b0, .inl (G.2.1.2, 344, .inr (.inl S))), (b1, .inl (G.2.1.2, 1032, .inr (.inl P)))]) (k' := 0) (n' := 0) F (sw_runS (R := ({ frames := 1, cells := 0, slots := 0, locals := 25 } : Room)) (na := 3) F T.2.1 T.2.2.1 (k_X10_in l G p.toInt64 1 1000000000) [] rfl (by decide) gX10_openBatch_X10_in rfl rfl rfl (by decide +kernel) ⟨Nat.le_of_ble_eq_true rfl, Nat.le_of_ble_eq_true rfl⟩ rfl rfl (Nat.le_of_ble_eq_true rfl) dX10_openBatch_6 (Nat.le_of_ble_eq_true rfl) (Nat.le_of_ble_eq_true rfl)) [] [0, 1, 2] rfl rfl (by decide) (by decide) rfl rfl (fun r_1 u_2 h_3 => ?_)
  have e_4 : r_1 = f_X10_in_r p.toInt64 1 1000000000 := h_3
  refine sw_eq (ws' := [(h0, .inr (10, [.ref b0, .ref b1, .int np, .int th, .long hh])), (b0, .inl (G.2.1.2, 344, .inr (.inl S))), (b1, .inl (G.2.1.2, 1032, .inr (.inl P)))]) (lv' := [(0, .ref h0), (1, .int p), (2, .int q)]) (st' := [.int r_1]) rfl rfl rfl ?_
  refine sw_if_eq (pc := 9) (tgt := 24) F dX10_openBatch_9 (by decide) (fun c => absurd c (by rw [e_4]; exact in_1 (by assumption) (by assumption))) (fun _ => ?_)
  refine sw_iload_n (pc := 12) F dX10_openBatch_12 rfl 2 rfl ?_
  refine sw_i2l (pc := 13) F dX10_openBatch_13 rfl ?_
  refine sw_lconst (pc := 14) (v := 0) F dX10_openBatch_14 rfl ?_
  refine sw_ldc2 (pc := 15) (v := 1000000000) F (List.mem_of_getElem? (i := 1) rfl) dX10_openBatch_15 ?_
  refine sw_calli (pc := 18) (wr := [(h0, .inr (10, [.ref b0, .ref b1, .int np, .int th, .long hh])), (b0, .inl (G.2.1.2, 344, .inr (.inl S))), (b1, .inl (G.2.1.2, 1032, .inr (.inl P)))]) (k' := 0) (n' := 0) F (sw_runS (R := ({ frames := 1, cells := 0, slots := 0, locals := 25 } : Room)) (na := 3) F T.2.1 T.2.2.1 (k_X10_in l G q.toInt64 0 1000000000) [] rfl (by decide) gX10_openBatch_X10_in rfl rfl rfl (by decide +kernel) ⟨Nat.le_of_ble_eq_true rfl, Nat.le_of_ble_eq_true rfl⟩ rfl rfl (Nat.le_of_ble_eq_true rfl) dX10_openBatch_18 (Nat.le_of_ble_eq_true rfl) (Nat.le_of_ble_eq_true rfl)) [] [0, 1, 2] rfl rfl (by decide) (by decide) rfl rfl (fun r_5 u_6 h_7 => ?_)
  have e_8 : r_5 = f_X10_in_r q.toInt64 0 1000000000 := h_7
  refine sw_eq (ws' := [(h0, .inr (10, [.ref b0, .ref b1, .int np, .int th, .long hh])), (b0, .inl (G.2.1.2, 344, .inr (.inl S))), (b1, .inl (G.2.1.2, 1032, .inr (.inl P)))]) (lv' := [(0, .ref h0), (1, .int p), (2, .int q)]) (st' := [.int r_5]) rfl rfl rfl ?_
  refine sw_if_ne (pc := 21) (tgt := 30) F dX10_openBatch_21 (by decide) (fun _ => ?_) (fun c => absurd c (by rw [e_8]; exact in_1 (by assumption) (by assumption)))
  refine sw_aload_n (pc := 30) F dX10_openBatch_30 rfl 0 rfl ?_
  refine sw_get (pc := 31) (Cn := RX10) (T := TX10) (N := 5) (ci := 10) (v := .ref b0) F in10 0 rfl rfl 0 (by decide) rfl (List.mem_of_getElem? (i := 2) rfl) rfl dX10_openBatch_31 ?_
  refine sw_bipush (pc := 34) (v := 45) F dX10_openBatch_34 rfl ?_
  refine sw_lald (pc := 36) F 1 rfl (sw_in rfl) dX10_openBatch_36 ?_
  refine sw_naml (e := S 45) rfl (fun x_9 ex_9 => ?_)
  refine sw_lconst (pc := 37) (v := 1) F dX10_openBatch_37 rfl ?_
  refine sw_lcmp_ne (pc := 38) (tgt := 48) F dX10_openBatch_38 dX10_openBatch_39 (by decide) (fun _ => ?_) (fun c => absurd c (by subst_vars; exact ho))
  refine sw_aload_n (pc := 48) F dX10_openBatch_48 rfl 0 rfl ?_
  refine sw_callv (pc := 49) (wr := []) (k' := 0) (n' := 0) F (sw_runV (R := ({ frames := 1, cells := 0, slots := 0, locals := 25 } : Room)) (q0 := 0) (na := 0) F T.2.1 T.2.2.1 (k_X10_save l G h0 b0 b1 np th hh S P Nn hnp (by omega)) [0, 1, 2] rfl (by decide) gX10_openBatch_X10_save rfl rfl rfl (by decide +kernel) ⟨Nat.le_of_ble_eq_true rfl, Nat.le_of_ble_eq_true rfl⟩ rfl rfl rfl rfl rfl (Nat.le_of_ble_eq_true rfl) dX10_openBatch_49 (Nat.le_of_ble_eq_true rfl) (Nat.le_of_ble_eq_true rfl)) [0, 1, 2] [] rfl rfl (by decide) (by decide) rfl rfl (fun u_11 h_12 => ?_)
  obtain ⟨o_13, o_14⟩ := u_11
  obtain ⟨e_15, e_16⟩ : o_13 = nI (if Nn = 3 then 3 else Nn + 1) ∧ o_14 = md_save Nn S P := h_12
  refine sw_eq (ws' := [(h0, .inr (10, [.ref b0, .ref b1, .int o_13, .int 0, .long hh])), (b0, .inl (G.2.1.2, 344, .inr (.inl S))), (b1, .inl (G.2.1.2, 1032, .inr (.inl o_14)))]) (lv' := [(0, .ref h0), (1, .int p), (2, .int q)]) (st' := []) rfl rfl rfl ?_
  refine sw_aload_n (pc := 52) F dX10_openBatch_52 rfl 0 rfl ?_
  refine sw_get (pc := 53) (Cn := RX10) (T := TX10) (N := 5) (ci := 10) (v := .ref b0) F in10 0 rfl rfl 0 (by decide) rfl (List.mem_of_getElem? (i := 2) rfl) rfl dX10_openBatch_53 ?_
  refine sw_bipush (pc := 56) (v := 45) F dX10_openBatch_56 rfl ?_
  refine sw_lconst (pc := 58) (v := 1) F dX10_openBatch_58 rfl ?_
  obtain ⟨f_17, ef_17⟩ : ∃ y : Nat → Int64, y = vp_updL S 45 1 := ⟨_, rfl⟩
  refine sw_last (pc := 59) (ws' := [(h0, .inr (10, [.ref b0, .ref b1, .int o_13, .int 0, .long hh])), (b0, .inl (G.2.1.2, 344, .inr (.inl f_17))), (b1, .inl (G.2.1.2, 1032, .inr (.inl o_14)))]) F 1 rfl (sw_in rfl) dX10_openBatch_59 (by rw [ef_17]; rfl) ?_
  refine sw_aload_n (pc := 60) F dX10_openBatch_60 rfl 0 rfl ?_
  refine sw_get (pc := 61) (Cn := RX10) (T := TX10) (N := 5) (ci := 10) (v := .ref b0) F in10 0 rfl rfl 0 (by decide) rfl (List.mem_of_getElem? (i := 2) rfl) rfl dX10_openBatch_61 ?_
  refine sw_bipush (pc := 64) (v := 44) F dX10_openBatch_64 rfl ?_
  refine sw_lconst (pc := 66) (v := 0) F dX10_openBatch_66 rfl ?_
  obtain ⟨f_18, ef_18⟩ : ∃ y : Nat → Int64, y = vp_updL f_17 44 0 := ⟨_, rfl⟩
  refine sw_last (pc := 67) (ws' := [(h0, .inr (10, [.ref b0, .ref b1, .int o_13, .int 0, .long hh])), (b0, .inl (G.2.1.2, 344, .inr (.inl f_18))), (b1, .inl (G.2.1.2, 1032, .inr (.inl o_14)))]) F 1 rfl (sw_in rfl) dX10_openBatch_67 (by rw [ef_18]; rfl) ?_
  refine sw_aload_n (pc := 68) F dX10_openBatch_68 rfl 0 rfl ?_
  refine sw_get (pc := 69) (Cn := RX10) (T := TX10) (N := 5) (ci := 10) (v := .ref b0) F in10 0 rfl rfl 0 (by decide) rfl (List.mem_of_getElem? (i := 2) rfl) rfl dX10_openBatch_69 ?_
  refine sw_bipush (pc := 72) (v := 46) F dX10_openBatch_72 rfl ?_
  refine sw_iload_n (pc := 74) F dX10_openBatch_74 rfl 1 rfl ?_
  refine sw_i2l (pc := 75) F dX10_openBatch_75 rfl ?_
  obtain ⟨f_19, ef_19⟩ : ∃ y : Nat → Int64, y = vp_updL f_18 46 p.toInt64 := ⟨_, rfl⟩
  refine sw_last (pc := 76) (ws' := [(h0, .inr (10, [.ref b0, .ref b1, .int o_13, .int 0, .long hh])), (b0, .inl (G.2.1.2, 344, .inr (.inl f_19))), (b1, .inl (G.2.1.2, 1032, .inr (.inl o_14)))]) F 1 rfl (sw_in rfl) dX10_openBatch_76 (by rw [ef_19]; rfl) ?_
  refine sw_aload_n (pc := 77) F dX10_openBatch_77 rfl 0 rfl ?_
  refine sw_get (pc := 78) (Cn := RX10) (T := TX10) (N := 5) (ci := 10) (v := .ref b0) F in10 0 rfl rfl 0 (by decide) rfl (List.mem_of_getElem? (i := 2) rfl) rfl dX10_openBatch_78 ?_
  refine sw_bipush (pc := 81) (v := 47) F dX10_openBatch_81 rfl ?_
  refine sw_iload_n (pc := 83) F dX10_openBatch_83 rfl 2 rfl ?_
  refine sw_i2l (pc := 84) F dX10_openBatch_84 rfl ?_
  obtain ⟨f_20, ef_20⟩ : ∃ y : Nat → Int64, y = vp_updL f_19 47 q.toInt64 := ⟨_, rfl⟩
  refine sw_last (pc := 85) (ws' := [(h0, .inr (10, [.ref b0, .ref b1, .int o_13, .int 0, .long hh])), (b0, .inl (G.2.1.2, 344, .inr (.inl f_20))), (b1, .inl (G.2.1.2, 1032, .inr (.inl o_14)))]) F 1 rfl (sw_in rfl) dX10_openBatch_85 (by rw [ef_20]; rfl) ?_
  refine sw_aload_n (pc := 86) F dX10_openBatch_86 rfl 0 rfl ?_
  refine sw_get (pc := 87) (Cn := RX10) (T := TX10) (N := 5) (ci := 10) (v := .ref b0) F in10 0 rfl rfl 0 (by decide) rfl (List.mem_of_getElem? (i := 2) rfl) rfl dX10_openBatch_87 ?_
  refine sw_bipush (pc := 90) (v := 49) F dX10_openBatch_90 rfl ?_
  refine sw_iload_n (pc := 92) F dX10_openBatch_92 rfl 1 rfl ?_
  refine sw_iload_n (pc := 93) F dX10_openBatch_93 rfl 2 rfl ?_
  refine sw_icmp_gt (pc := 94) (tgt := 101) F dX10_openBatch_94 (by decide) (fun c_21 => ?_) (fun c_21 => ?_)
  · skip
    refine sw_ldc2 (pc := 101) (v := 2) F (List.mem_of_getElem? (i := 3) rfl) dX10_openBatch_101 ?_
    obtain ⟨f_22, ef_22⟩ : ∃ y : Nat → Int64, y = vp_updL f_20 49 2 := ⟨_, rfl⟩
    refine sw_last (pc := 104) (ws' := [(h0, .inr (10, [.ref b0, .ref b1, .int o_13, .int 0, .long hh])), (b0, .inl (G.2.1.2, 344, .inr (.inl f_22))), (b1, .inl (G.2.1.2, 1032, .inr (.inl o_14)))]) F 1 rfl (sw_in rfl) dX10_openBatch_104 (by rw [ef_22]; rfl) ?_
    refine sw_aload_n (pc := 105) F dX10_openBatch_105 rfl 0 rfl ?_
    refine sw_get (pc := 106) (Cn := RX10) (T := TX10) (N := 5) (ci := 10) (v := .ref b0) F in10 0 rfl rfl 0 (by decide) rfl (List.mem_of_getElem? (i := 2) rfl) rfl dX10_openBatch_106 ?_
    refine sw_bipush (pc := 109) (v := 48) F dX10_openBatch_109 rfl ?_
    refine sw_dup2 (pc := 111) F dX10_openBatch_111 rfl rfl ?_
    refine sw_lald (pc := 112) F 1 rfl (sw_in rfl) dX10_openBatch_112 ?_
    refine sw_naml (e := f_22 48) rfl (fun x_23 ex_23 => ?_)
    refine sw_lconst (pc := 113) (v := 1) F dX10_openBatch_113 rfl ?_
    refine sw_ladd (pc := 114) F dX10_openBatch_114 ?_
    refine sw_topl (fun x_24 ex_24 => ?_)
    obtain ⟨f_25, ef_25⟩ : ∃ y : Nat → Int64, y = vp_updL f_22 48 x_24 := ⟨_, rfl⟩
    refine sw_last (pc := 115) (ws' := [(h0, .inr (10, [.ref b0, .ref b1, .int o_13, .int 0, .long hh])), (b0, .inl (G.2.1.2, 344, .inr (.inl f_25))), (b1, .inl (G.2.1.2, 1032, .inr (.inl o_14)))]) F 1 rfl (sw_in rfl) dX10_openBatch_115 (by rw [ef_25]; rfl) ?_
    refine sw_aload_n (pc := 116) F dX10_openBatch_116 rfl 0 rfl ?_
    refine sw_get (pc := 117) (Cn := RX10) (T := TX10) (N := 5) (ci := 10) (v := .ref b0) F in10 0 rfl rfl 0 (by decide) rfl (List.mem_of_getElem? (i := 2) rfl) rfl dX10_openBatch_117 ?_
    refine sw_bipush (pc := 120) (v := 48) F dX10_openBatch_120 rfl ?_
    refine sw_lald (pc := 122) F 1 rfl (sw_in rfl) dX10_openBatch_122 ?_
    refine sw_naml (e := f_25 48) rfl (fun x_26 ex_26 => ?_)
    refine sw_l2i (pc := 123) F dX10_openBatch_123 rfl ?_
    subst ex_26
    subst ef_25
    subst ex_24
    subst ex_23
    subst ef_22
    subst ef_20
    subst ef_19
    subst ef_18
    subst ef_17
    subst e_16
    subst e_15
    subst ex_9
    subst e_8
    subst e_4
    exact sw_iret (pc := 124) F T rfl rfl ((nI (if Nn = 3 then 3 else Nn + 1)), (vp_updL (vp_updL (vp_updL (vp_updL (vp_updL (vp_updL S 45 1) 44 0) 46 p.toInt64) 47 q.toInt64) 49 2) 48 (((vp_updL (vp_updL (vp_updL (vp_updL (vp_updL S 45 1) 44 0) 46 p.toInt64) 47 q.toInt64) 49 2) 48) + 1)), (md_save Nn S P)) ⟨(by unfold f_X10_openBatch_r; rw [if_pos c_21]), rfl, (by unfold f_X10_openBatch_o1; rw [if_pos c_21]), rfl⟩ rfl dX10_openBatch_124
  · skip
    refine sw_lconst (pc := 97) (v := 1) F dX10_openBatch_97 rfl ?_
    refine sw_goto (pc := 98) (tgt := 104) F dX10_openBatch_98 (by decide) ?_
    obtain ⟨f_27, ef_27⟩ : ∃ y : Nat → Int64, y = vp_updL f_20 49 1 := ⟨_, rfl⟩
    refine sw_last (pc := 104) (ws' := [(h0, .inr (10, [.ref b0, .ref b1, .int o_13, .int 0, .long hh])), (b0, .inl (G.2.1.2, 344, .inr (.inl f_27))), (b1, .inl (G.2.1.2, 1032, .inr (.inl o_14)))]) F 1 rfl (sw_in rfl) dX10_openBatch_104 (by rw [ef_27]; rfl) ?_
    refine sw_aload_n (pc := 105) F dX10_openBatch_105 rfl 0 rfl ?_
    refine sw_get (pc := 106) (Cn := RX10) (T := TX10) (N := 5) (ci := 10) (v := .ref b0) F in10 0 rfl rfl 0 (by decide) rfl (List.mem_of_getElem? (i := 2) rfl) rfl dX10_openBatch_106 ?_
    refine sw_bipush (pc := 109) (v := 48) F dX10_openBatch_109 rfl ?_
    refine sw_dup2 (pc := 111) F dX10_openBatch_111 rfl rfl ?_
    refine sw_lald (pc := 112) F 1 rfl (sw_in rfl) dX10_openBatch_112 ?_
    refine sw_naml (e := f_27 48) rfl (fun x_28 ex_28 => ?_)
    refine sw_lconst (pc := 113) (v := 1) F dX10_openBatch_113 rfl ?_
    refine sw_ladd (pc := 114) F dX10_openBatch_114 ?_
    refine sw_topl (fun x_29 ex_29 => ?_)
    obtain ⟨f_30, ef_30⟩ : ∃ y : Nat → Int64, y = vp_updL f_27 48 x_29 := ⟨_, rfl⟩
    refine sw_last (pc := 115) (ws' := [(h0, .inr (10, [.ref b0, .ref b1, .int o_13, .int 0, .long hh])), (b0, .inl (G.2.1.2, 344, .inr (.inl f_30))), (b1, .inl (G.2.1.2, 1032, .inr (.inl o_14)))]) F 1 rfl (sw_in rfl) dX10_openBatch_115 (by rw [ef_30]; rfl) ?_
    refine sw_aload_n (pc := 116) F dX10_openBatch_116 rfl 0 rfl ?_
    refine sw_get (pc := 117) (Cn := RX10) (T := TX10) (N := 5) (ci := 10) (v := .ref b0) F in10 0 rfl rfl 0 (by decide) rfl (List.mem_of_getElem? (i := 2) rfl) rfl dX10_openBatch_117 ?_
    refine sw_bipush (pc := 120) (v := 48) F dX10_openBatch_120 rfl ?_
    refine sw_lald (pc := 122) F 1 rfl (sw_in rfl) dX10_openBatch_122 ?_
    refine sw_naml (e := f_30 48) rfl (fun x_31 ex_31 => ?_)
    refine sw_l2i (pc := 123) F dX10_openBatch_123 rfl ?_
    subst ex_31
    subst ef_30
    subst ex_29
    subst ex_28
    subst ef_27
    subst ef_20
    subst ef_19
    subst ef_18
    subst ef_17
    subst e_16
    subst e_15
    subst ex_9
    subst e_8
    subst e_4
    exact sw_iret (pc := 124) F T rfl rfl ((nI (if Nn = 3 then 3 else Nn + 1)), (vp_updL (vp_updL (vp_updL (vp_updL (vp_updL (vp_updL S 45 1) 44 0) 46 p.toInt64) 47 q.toInt64) 49 1) 48 (((vp_updL (vp_updL (vp_updL (vp_updL (vp_updL S 45 1) 44 0) 46 p.toInt64) 47 q.toInt64) 49 1) 48) + 1)), (md_save Nn S P)) ⟨(by unfold f_X10_openBatch_r; rw [if_neg c_21]), rfl, (by unfold f_X10_openBatch_o1; rw [if_neg c_21]), rfl⟩ rfl dX10_openBatch_124
def f_X10_closeBatch_o0_2 (Nn : Nat) : Int32 := (nI (if Nn = 3 then 3 else Nn + 1))
def f_X10_closeBatch_o1 (S : Nat → Int64) : Nat → Int64 := (vp_updL (vp_updL S 45 0) 49 0)
def f_X10_closeBatch_o2 (S : Nat → Int64) (P : Nat → Int64) (Nn : Nat) : Nat → Int64 := (md_save Nn S P)
def f_X10_closeBatch_r (S : Nat → Int64) : Int64 := ((vp_updL (vp_updL S 45 0) 49 0) 44)
set_option maxHeartbeats 4000000 in
set_option maxRecDepth 100000 in
theorem k_X10_closeBatch (l : Launch) (G : sw_E) (h0 : Nat) (b0 : Nat) (b1 : Nat) (np : Int32) (th : Int32) (hh : Int64) (S : Nat → Int64) (P : Nat → Int64) (Nn : Nat) (hnp : np = nI Nn) (hNn : Nn < 4) (ho : ¬ S 45 = 0) : sw_M l G yX10_closeBatch wsX10_closeBatch ({ frames := 1, cells := 0, slots := 0, locals := 21 } : Room) [.ref h0] [(h0, .inr (10, [.ref b0, .ref b1, .int np, .int th, .long hh])), (b0, .inl (G.2.1.2, 344, .inr (.inl S))), (b1, .inl (G.2.1.2, 1032, .inr (.inl P)))] (sw_QL G (S := Int32 × (Nat → Int64) × (Nat → Int64)) (fun (r : Int64) (u : Int32 × (Nat → Int64) × (Nat → Int64)) => r = f_X10_closeBatch_r S ∧ u.1 = f_X10_closeBatch_o0_2 Nn ∧ u.2.1 = f_X10_closeBatch_o1 S ∧ u.2.2 = f_X10_closeBatch_o2 S P Nn) (fun u => [(h0, .inr (10, [.ref b0, .ref b1, .int u.1, .int 0, .long hh])), (b0, .inl (G.2.1.2, 344, .inr (.inl u.2.1))), (b1, .inl (G.2.1.2, 1032, .inr (.inl u.2.2)))])) 0 0 := by
  refine sw_start (cc := cX10_closeBatch) (maxL := 1) (ret := some .long) (lv := [(0, .ref h0)]) (own := RX10) (nm := "closeBatch") (by decide +kernel) rfl rfl rfl rfl (Nat.le_of_ble_eq_true rfl) (fun C F T => ?_)
  have in10 : ∀ w ∈ u_ws RX10 TX10 5, w ∈ wsX10_closeBatch := fun w h => List.mem_cons_of_mem _ (List.mem_append_right _ (h))
  refine sw_aload_n (pc := 0) F dX10_closeBatch_0 rfl 0 rfl ?_
  refine sw_get (pc := 1) (Cn := RX10) (T := TX10) (N := 5) (ci := 10) (v := .ref b0) F in10 0 rfl rfl 0 (by decide) rfl (List.mem_of_getElem? (i := 1) rfl) rfl dX10_closeBatch_1 ?_
  refine sw_bipush (pc := 4) (v := 45) F dX10_closeBatch_4 rfl ?_
  refine sw_lald (pc := 6) F 1 rfl (sw_in rfl) dX10_closeBatch_6 ?_
  refine sw_naml (e := S 45) rfl (fun x_1 ex_1 => ?_)
  refine sw_lconst (pc := 7) (v := 0) F dX10_closeBatch_7 rfl ?_
  refine sw_lcmp_ne (pc := 8) (tgt := 19) F dX10_closeBatch_8 dX10_closeBatch_9 (by decide) (fun _ => ?_) (fun c => absurd c (by subst_vars; exact ho))
  refine sw_aload_n (pc := 19) F dX10_closeBatch_19 rfl 0 rfl ?_
  refine sw_callv (pc := 20) (wr := []) (k' := 0) (n' := 0) F (sw_runV (R := ({ frames := 1, cells := 0, slots := 0, locals := 21 } : Room)) (q0 := 0) (na := 0) F T.2.1 T.2.2.1 (k_X10_save l G h0 b0 b1 np th hh S P Nn hnp (by omega)) [0, 1, 2] rfl (by decide) gX10_closeBatch_X10_save rfl rfl rfl (by decide +kernel) ⟨Nat.le_of_ble_eq_true rfl, Nat.le_of_ble_eq_true rfl⟩ rfl rfl rfl rfl rfl (Nat.le_of_ble_eq_true rfl) dX10_closeBatch_20 (Nat.le_of_ble_eq_true rfl) (Nat.le_of_ble_eq_true rfl)) [0, 1, 2] [] rfl rfl (by decide) (by decide) rfl rfl (fun u_3 h_4 => ?_)
  obtain ⟨o_5, o_6⟩ := u_3
  obtain ⟨e_7, e_8⟩ : o_5 = nI (if Nn = 3 then 3 else Nn + 1) ∧ o_6 = md_save Nn S P := h_4
  refine sw_eq (ws' := [(h0, .inr (10, [.ref b0, .ref b1, .int o_5, .int 0, .long hh])), (b0, .inl (G.2.1.2, 344, .inr (.inl S))), (b1, .inl (G.2.1.2, 1032, .inr (.inl o_6)))]) (lv' := [(0, .ref h0)]) (st' := []) rfl rfl rfl ?_
  refine sw_aload_n (pc := 23) F dX10_closeBatch_23 rfl 0 rfl ?_
  refine sw_get (pc := 24) (Cn := RX10) (T := TX10) (N := 5) (ci := 10) (v := .ref b0) F in10 0 rfl rfl 0 (by decide) rfl (List.mem_of_getElem? (i := 1) rfl) rfl dX10_closeBatch_24 ?_
  refine sw_bipush (pc := 27) (v := 45) F dX10_closeBatch_27 rfl ?_
  refine sw_lconst (pc := 29) (v := 0) F dX10_closeBatch_29 rfl ?_
  obtain ⟨f_9, ef_9⟩ : ∃ y : Nat → Int64, y = vp_updL S 45 0 := ⟨_, rfl⟩
  refine sw_last (pc := 30) (ws' := [(h0, .inr (10, [.ref b0, .ref b1, .int o_5, .int 0, .long hh])), (b0, .inl (G.2.1.2, 344, .inr (.inl f_9))), (b1, .inl (G.2.1.2, 1032, .inr (.inl o_6)))]) F 1 rfl (sw_in rfl) dX10_closeBatch_30 (by rw [ef_9]; rfl) ?_
  refine sw_aload_n (pc := 31) F dX10_closeBatch_31 rfl 0 rfl ?_
  refine sw_get (pc := 32) (Cn := RX10) (T := TX10) (N := 5) (ci := 10) (v := .ref b0) F in10 0 rfl rfl 0 (by decide) rfl (List.mem_of_getElem? (i := 1) rfl) rfl dX10_closeBatch_32 ?_
  refine sw_bipush (pc := 35) (v := 49) F dX10_closeBatch_35 rfl ?_
  refine sw_lconst (pc := 37) (v := 0) F dX10_closeBatch_37 rfl ?_
  obtain ⟨f_10, ef_10⟩ : ∃ y : Nat → Int64, y = vp_updL f_9 49 0 := ⟨_, rfl⟩
  refine sw_last (pc := 38) (ws' := [(h0, .inr (10, [.ref b0, .ref b1, .int o_5, .int 0, .long hh])), (b0, .inl (G.2.1.2, 344, .inr (.inl f_10))), (b1, .inl (G.2.1.2, 1032, .inr (.inl o_6)))]) F 1 rfl (sw_in rfl) dX10_closeBatch_38 (by rw [ef_10]; rfl) ?_
  refine sw_aload_n (pc := 39) F dX10_closeBatch_39 rfl 0 rfl ?_
  refine sw_get (pc := 40) (Cn := RX10) (T := TX10) (N := 5) (ci := 10) (v := .ref b0) F in10 0 rfl rfl 0 (by decide) rfl (List.mem_of_getElem? (i := 1) rfl) rfl dX10_closeBatch_40 ?_
  refine sw_bipush (pc := 43) (v := 44) F dX10_closeBatch_43 rfl ?_
  refine sw_lald (pc := 45) F 1 rfl (sw_in rfl) dX10_closeBatch_45 ?_
  refine sw_naml (e := f_10 44) rfl (fun x_11 ex_11 => ?_)
  subst ex_11
  subst ef_10
  subst ef_9
  subst e_8
  subst e_7
  subst ex_1
  exact sw_lret (pc := 46) F T ((nI (if Nn = 3 then 3 else Nn + 1)), (vp_updL (vp_updL S 45 0) 49 0), (md_save Nn S P)) ⟨rfl, rfl, rfl, rfl⟩ rfl dX10_closeBatch_46
