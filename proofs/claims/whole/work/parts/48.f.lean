set_option maxHeartbeats 4000000 in
set_option maxRecDepth 100000 in
theorem k_X10_setSpan_f1 (l : Launch) (G : sw_E) (h0 : Nat) (b0 : Nat) (b1 : Nat) (np : Int32) (th : Int32) (hh : Int64) (S : Nat → Int64) (P : Nat → Int64) (t : Int32) (p : Int32) (hf0 : f_X10_isTransmitter_r t = 0) : sw_M l G yX10_setSpan wsX10_setSpan ({ frames := 2, cells := 0, slots := 0, locals := 45 } : Room) [.ref h0, .int t, .int p] [(h0, .inr (10, [.ref b0, .ref b1, .int np, .int th, .long hh])), (b0, .inl (G.2.1.2, 344, .inr (.inl S))), (b1, .inl (G.2.1.2, 1032, .inr (.inl P)))] (sw_QI G (S := Unit) (fun (r : Int32) (_ : Unit) => r = 0) (fun _ => [(h0, .inr (10, [.ref b0, .ref b1, .int np, .int 1, .long hh])), (b0, .inl (G.2.1.2, 344, .inr (.inl S))), (b1, .inl (G.2.1.2, 1032, .inr (.inl P)))])) 0 0 := by
  refine sw_start (cc := cX10_setSpan) (maxL := 3) (ret := some .int) (lv := [(0, .ref h0), (1, .int t), (2, .int p)]) (own := RX10) (nm := "setSpan") (by decide +kernel) rfl rfl rfl rfl (Nat.le_of_ble_eq_true rfl) (fun C F T => ?_)
  refine sw_iload_n (pc := 0) F dX10_setSpan_0 rfl 1 rfl ?_
  refine sw_calli (pc := 1) (wr := [(h0, .inr (10, [.ref b0, .ref b1, .int np, .int th, .long hh])), (b0, .inl (G.2.1.2, 344, .inr (.inl S))), (b1, .inl (G.2.1.2, 1032, .inr (.inl P)))]) (k' := 0) (n' := 0) F (sw_runS (R := ({ frames := 2, cells := 0, slots := 0, locals := 45 } : Room)) (na := 1) F T.2.1 T.2.2.1 (k_X10_isTransmitter l G t) [] rfl (by decide) gX10_setSpan_X10_isTransmitter rfl rfl rfl (by decide +kernel) ⟨Nat.le_of_ble_eq_true rfl, Nat.le_of_ble_eq_true rfl⟩ rfl rfl (Nat.le_of_ble_eq_true rfl) dX10_setSpan_1 (Nat.le_of_ble_eq_true rfl) (Nat.le_of_ble_eq_true rfl)) [] [0, 1, 2] rfl rfl (by decide) (by decide) rfl rfl (fun r_1 u_2 h_3 => ?_)
  have e_4 : r_1 = f_X10_isTransmitter_r t := h_3
  refine sw_eq (ws' := [(h0, .inr (10, [.ref b0, .ref b1, .int np, .int th, .long hh])), (b0, .inl (G.2.1.2, 344, .inr (.inl S))), (b1, .inl (G.2.1.2, 1032, .inr (.inl P)))]) (lv' := [(0, .ref h0), (1, .int t), (2, .int p)]) (st' := [.int r_1]) rfl rfl rfl ?_
  refine sw_if_ne (pc := 4) (tgt := 13) F dX10_setSpan_4 (by decide) (fun c => absurd (by rw [e_4]; exact hf0) c) (fun _ => ?_)
  refine sw_aload_n (pc := 7) F dX10_setSpan_7 rfl 0 rfl ?_
  refine sw_iconst (pc := 8) (v := 1) F dX10_setSpan_8 rfl ?_
  refine sw_calli (pc := 9) (wr := []) (k' := 0) (n' := 0) F (sw_runV (R := ({ frames := 2, cells := 0, slots := 0, locals := 45 } : Room)) (q0 := 0) (na := 1) F T.2.1 T.2.2.1 (k_X10_fails l G h0 b0 b1 np th hh S P 1) [0, 1, 2] rfl (by decide) gX10_setSpan_X10_fails rfl rfl rfl (by decide +kernel) ⟨Nat.le_of_ble_eq_true rfl, Nat.le_of_ble_eq_true rfl⟩ rfl rfl rfl rfl rfl (Nat.le_of_ble_eq_true rfl) dX10_setSpan_9 (Nat.le_of_ble_eq_true rfl) (Nat.le_of_ble_eq_true rfl)) [0, 1, 2] [] rfl rfl (by decide) (by decide) rfl rfl (fun r_5 u_6 h_7 => ?_)
  have e_8 : r_5 = 0 := h_7
  refine sw_eqt (v := .int 0) (by rw [e_8]) ?_
  refine sw_eq (ws' := [(h0, .inr (10, [.ref b0, .ref b1, .int np, .int 1, .long hh])), (b0, .inl (G.2.1.2, 344, .inr (.inl S))), (b1, .inl (G.2.1.2, 1032, .inr (.inl P)))]) (lv' := [(0, .ref h0), (1, .int t), (2, .int p)]) (st' := [.int 0]) rfl rfl rfl ?_
  subst e_4
  exact sw_iret (pc := 12) F T rfl rfl () rfl rfl dX10_setSpan_12
set_option maxHeartbeats 4000000 in
set_option maxRecDepth 100000 in
theorem k_X10_setSpan_f2 (l : Launch) (G : sw_E) (h0 : Nat) (b0 : Nat) (b1 : Nat) (np : Int32) (th : Int32) (hh : Int64) (S : Nat → Int64) (P : Nat → Int64) (t : Int32) (p : Int32) (hf0 : ¬ f_X10_isTransmitter_r t = 0) (hf1 : f_X10_in_r p.toInt64 100 30000 = 0) : sw_M l G yX10_setSpan wsX10_setSpan ({ frames := 2, cells := 0, slots := 0, locals := 45 } : Room) [.ref h0, .int t, .int p] [(h0, .inr (10, [.ref b0, .ref b1, .int np, .int th, .long hh])), (b0, .inl (G.2.1.2, 344, .inr (.inl S))), (b1, .inl (G.2.1.2, 1032, .inr (.inl P)))] (sw_QI G (S := Unit) (fun (r : Int32) (_ : Unit) => r = 0) (fun _ => [(h0, .inr (10, [.ref b0, .ref b1, .int np, .int 2, .long hh])), (b0, .inl (G.2.1.2, 344, .inr (.inl S))), (b1, .inl (G.2.1.2, 1032, .inr (.inl P)))])) 0 0 := by
  refine sw_start (cc := cX10_setSpan) (maxL := 3) (ret := some .int) (lv := [(0, .ref h0), (1, .int t), (2, .int p)]) (own := RX10) (nm := "setSpan") (by decide +kernel) rfl rfl rfl rfl (Nat.le_of_ble_eq_true rfl) (fun C F T => ?_)
  refine sw_iload_n (pc := 0) F dX10_setSpan_0 rfl 1 rfl ?_
  refine sw_calli (pc := 1) (wr := [(h0, .inr (10, [.ref b0, .ref b1, .int np, .int th, .long hh])), (b0, .inl (G.2.1.2, 344, .inr (.inl S))), (b1, .inl (G.2.1.2, 1032, .inr (.inl P)))]) (k' := 0) (n' := 0) F (sw_runS (R := ({ frames := 2, cells := 0, slots := 0, locals := 45 } : Room)) (na := 1) F T.2.1 T.2.2.1 (k_X10_isTransmitter l G t) [] rfl (by decide) gX10_setSpan_X10_isTransmitter rfl rfl rfl (by decide +kernel) ⟨Nat.le_of_ble_eq_true rfl, Nat.le_of_ble_eq_true rfl⟩ rfl rfl (Nat.le_of_ble_eq_true rfl) dX10_setSpan_1 (Nat.le_of_ble_eq_true rfl) (Nat.le_of_ble_eq_true rfl)) [] [0, 1, 2] rfl rfl (by decide) (by decide) rfl rfl (fun r_1 u_2 h_3 => ?_)
  have e_4 : r_1 = f_X10_isTransmitter_r t := h_3
  refine sw_eq (ws' := [(h0, .inr (10, [.ref b0, .ref b1, .int np, .int th, .long hh])), (b0, .inl (G.2.1.2, 344, .inr (.inl S))), (b1, .inl (G.2.1.2, 1032, .inr (.inl P)))]) (lv' := [(0, .ref h0), (1, .int t), (2, .int p)]) (st' := [.int r_1]) rfl rfl rfl ?_
  refine sw_if_ne (pc := 4) (tgt := 13) F dX10_setSpan_4 (by decide) (fun _ => ?_) (fun c => absurd c (by rw [e_4]; exact hf0))
  refine sw_iload_n (pc := 13) F dX10_setSpan_13 rfl 2 rfl ?_
  refine sw_i2l (pc := 14) F dX10_setSpan_14 rfl ?_
  refine sw_ldc2 (pc := 15) (v := 100) F (List.mem_of_getElem? (i := 1) rfl) dX10_setSpan_15 ?_
  refine sw_ldc2 (pc := 18) (v := 30000) F (List.mem_of_getElem? (i := 2) rfl) dX10_setSpan_18 ?_
  refine sw_calli (pc := 21) (wr := [(h0, .inr (10, [.ref b0, .ref b1, .int np, .int th, .long hh])), (b0, .inl (G.2.1.2, 344, .inr (.inl S))), (b1, .inl (G.2.1.2, 1032, .inr (.inl P)))]) (k' := 0) (n' := 0) F (sw_runS (R := ({ frames := 2, cells := 0, slots := 0, locals := 45 } : Room)) (na := 3) F T.2.1 T.2.2.1 (k_X10_in l G p.toInt64 100 30000) [] rfl (by decide) gX10_setSpan_X10_in rfl rfl rfl (by decide +kernel) ⟨Nat.le_of_ble_eq_true rfl, Nat.le_of_ble_eq_true rfl⟩ rfl rfl (Nat.le_of_ble_eq_true rfl) dX10_setSpan_21 (Nat.le_of_ble_eq_true rfl) (Nat.le_of_ble_eq_true rfl)) [] [0, 1, 2] rfl rfl (by decide) (by decide) rfl rfl (fun r_5 u_6 h_7 => ?_)
  have e_8 : r_5 = f_X10_in_r p.toInt64 100 30000 := h_7
  refine sw_eq (ws' := [(h0, .inr (10, [.ref b0, .ref b1, .int np, .int th, .long hh])), (b0, .inl (G.2.1.2, 344, .inr (.inl S))), (b1, .inl (G.2.1.2, 1032, .inr (.inl P)))]) (lv' := [(0, .ref h0), (1, .int t), (2, .int p)]) (st' := [.int r_5]) rfl rfl rfl ?_
  refine sw_if_eq (pc := 24) (tgt := 41) F dX10_setSpan_24 (by decide) (fun _ => ?_) (fun c => absurd (by rw [e_8]; exact hf1) c)
  refine sw_aload_n (pc := 41) F dX10_setSpan_41 rfl 0 rfl ?_
  refine sw_iconst (pc := 42) (v := 2) F dX10_setSpan_42 rfl ?_
  refine sw_calli (pc := 43) (wr := []) (k' := 0) (n' := 0) F (sw_runV (R := ({ frames := 2, cells := 0, slots := 0, locals := 45 } : Room)) (q0 := 0) (na := 1) F T.2.1 T.2.2.1 (k_X10_fails l G h0 b0 b1 np th hh S P 2) [0, 1, 2] rfl (by decide) gX10_setSpan_X10_fails rfl rfl rfl (by decide +kernel) ⟨Nat.le_of_ble_eq_true rfl, Nat.le_of_ble_eq_true rfl⟩ rfl rfl rfl rfl rfl (Nat.le_of_ble_eq_true rfl) dX10_setSpan_43 (Nat.le_of_ble_eq_true rfl) (Nat.le_of_ble_eq_true rfl)) [0, 1, 2] [] rfl rfl (by decide) (by decide) rfl rfl (fun r_9 u_10 h_11 => ?_)
  have e_12 : r_9 = 0 := h_11
  refine sw_eqt (v := .int 0) (by rw [e_12]) ?_
  refine sw_eq (ws' := [(h0, .inr (10, [.ref b0, .ref b1, .int np, .int 2, .long hh])), (b0, .inl (G.2.1.2, 344, .inr (.inl S))), (b1, .inl (G.2.1.2, 1032, .inr (.inl P)))]) (lv' := [(0, .ref h0), (1, .int t), (2, .int p)]) (st' := [.int 0]) rfl rfl rfl ?_
  subst e_8
  subst e_4
  exact sw_iret (pc := 46) F T rfl rfl () rfl rfl dX10_setSpan_46
set_option maxHeartbeats 4000000 in
set_option maxRecDepth 100000 in
theorem k_X10_setDamping_f1 (l : Launch) (G : sw_E) (h0 : Nat) (b0 : Nat) (b1 : Nat) (np : Int32) (th : Int32) (hh : Int64) (S : Nat → Int64) (P : Nat → Int64) (t : Int32) (p : Int32) (hf0 : f_X10_isTransmitter_r t = 0) : sw_M l G yX10_setDamping wsX10_setDamping ({ frames := 2, cells := 0, slots := 0, locals := 45 } : Room) [.ref h0, .int t, .int p] [(h0, .inr (10, [.ref b0, .ref b1, .int np, .int th, .long hh])), (b0, .inl (G.2.1.2, 344, .inr (.inl S))), (b1, .inl (G.2.1.2, 1032, .inr (.inl P)))] (sw_QI G (S := Unit) (fun (r : Int32) (_ : Unit) => r = 0) (fun _ => [(h0, .inr (10, [.ref b0, .ref b1, .int np, .int 1, .long hh])), (b0, .inl (G.2.1.2, 344, .inr (.inl S))), (b1, .inl (G.2.1.2, 1032, .inr (.inl P)))])) 0 0 := by
  refine sw_start (cc := cX10_setDamping) (maxL := 3) (ret := some .int) (lv := [(0, .ref h0), (1, .int t), (2, .int p)]) (own := RX10) (nm := "setDamping") (by decide +kernel) rfl rfl rfl rfl (Nat.le_of_ble_eq_true rfl) (fun C F T => ?_)
  refine sw_iload_n (pc := 0) F dX10_setDamping_0 rfl 1 rfl ?_
  refine sw_calli (pc := 1) (wr := [(h0, .inr (10, [.ref b0, .ref b1, .int np, .int th, .long hh])), (b0, .inl (G.2.1.2, 344, .inr (.inl S))), (b1, .inl (G.2.1.2, 1032, .inr (.inl P)))]) (k' := 0) (n' := 0) F (sw_runS (R := ({ frames := 2, cells := 0, slots := 0, locals := 45 } : Room)) (na := 1) F T.2.1 T.2.2.1 (k_X10_isTransmitter l G t) [] rfl (by decide) gX10_setDamping_X10_isTransmitter rfl rfl rfl (by decide +kernel) ⟨Nat.le_of_ble_eq_true rfl, Nat.le_of_ble_eq_true rfl⟩ rfl rfl (Nat.le_of_ble_eq_true rfl) dX10_setDamping_1 (Nat.le_of_ble_eq_true rfl) (Nat.le_of_ble_eq_true rfl)) [] [0, 1, 2] rfl rfl (by decide) (by decide) rfl rfl (fun r_1 u_2 h_3 => ?_)
  have e_4 : r_1 = f_X10_isTransmitter_r t := h_3
  refine sw_eq (ws' := [(h0, .inr (10, [.ref b0, .ref b1, .int np, .int th, .long hh])), (b0, .inl (G.2.1.2, 344, .inr (.inl S))), (b1, .inl (G.2.1.2, 1032, .inr (.inl P)))]) (lv' := [(0, .ref h0), (1, .int t), (2, .int p)]) (st' := [.int r_1]) rfl rfl rfl ?_
  refine sw_if_ne (pc := 4) (tgt := 13) F dX10_setDamping_4 (by decide) (fun c => absurd (by rw [e_4]; exact hf0) c) (fun _ => ?_)
  refine sw_aload_n (pc := 7) F dX10_setDamping_7 rfl 0 rfl ?_
  refine sw_iconst (pc := 8) (v := 1) F dX10_setDamping_8 rfl ?_
  refine sw_calli (pc := 9) (wr := []) (k' := 0) (n' := 0) F (sw_runV (R := ({ frames := 2, cells := 0, slots := 0, locals := 45 } : Room)) (q0 := 0) (na := 1) F T.2.1 T.2.2.1 (k_X10_fails l G h0 b0 b1 np th hh S P 1) [0, 1, 2] rfl (by decide) gX10_setDamping_X10_fails rfl rfl rfl (by decide +kernel) ⟨Nat.le_of_ble_eq_true rfl, Nat.le_of_ble_eq_true rfl⟩ rfl rfl rfl rfl rfl (Nat.le_of_ble_eq_true rfl) dX10_setDamping_9 (Nat.le_of_ble_eq_true rfl) (Nat.le_of_ble_eq_true rfl)) [0, 1, 2] [] rfl rfl (by decide) (by decide) rfl rfl (fun r_5 u_6 h_7 => ?_)
  have e_8 : r_5 = 0 := h_7
  refine sw_eqt (v := .int 0) (by rw [e_8]) ?_
  refine sw_eq (ws' := [(h0, .inr (10, [.ref b0, .ref b1, .int np, .int 1, .long hh])), (b0, .inl (G.2.1.2, 344, .inr (.inl S))), (b1, .inl (G.2.1.2, 1032, .inr (.inl P)))]) (lv' := [(0, .ref h0), (1, .int t), (2, .int p)]) (st' := [.int 0]) rfl rfl rfl ?_
  subst e_4
  exact sw_iret (pc := 12) F T rfl rfl () rfl rfl dX10_setDamping_12
set_option maxHeartbeats 4000000 in
set_option maxRecDepth 100000 in
theorem k_X10_setDamping_f2 (l : Launch) (G : sw_E) (h0 : Nat) (b0 : Nat) (b1 : Nat) (np : Int32) (th : Int32) (hh : Int64) (S : Nat → Int64) (P : Nat → Int64) (t : Int32) (p : Int32) (hf0 : ¬ f_X10_isTransmitter_r t = 0) (hf1 : f_X10_in_r p.toInt64 0 8 = 0) : sw_M l G yX10_setDamping wsX10_setDamping ({ frames := 2, cells := 0, slots := 0, locals := 45 } : Room) [.ref h0, .int t, .int p] [(h0, .inr (10, [.ref b0, .ref b1, .int np, .int th, .long hh])), (b0, .inl (G.2.1.2, 344, .inr (.inl S))), (b1, .inl (G.2.1.2, 1032, .inr (.inl P)))] (sw_QI G (S := Unit) (fun (r : Int32) (_ : Unit) => r = 0) (fun _ => [(h0, .inr (10, [.ref b0, .ref b1, .int np, .int 2, .long hh])), (b0, .inl (G.2.1.2, 344, .inr (.inl S))), (b1, .inl (G.2.1.2, 1032, .inr (.inl P)))])) 0 0 := by
  refine sw_start (cc := cX10_setDamping) (maxL := 3) (ret := some .int) (lv := [(0, .ref h0), (1, .int t), (2, .int p)]) (own := RX10) (nm := "setDamping") (by decide +kernel) rfl rfl rfl rfl (Nat.le_of_ble_eq_true rfl) (fun C F T => ?_)
  refine sw_iload_n (pc := 0) F dX10_setDamping_0 rfl 1 rfl ?_
  refine sw_calli (pc := 1) (wr := [(h0, .inr (10, [.ref b0, .ref b1, .int np, .int th, .long hh])), (b0, .inl (G.2.1.2, 344, .inr (.inl S))), (b1, .inl (G.2.1.2, 1032, .inr (.inl P)))]) (k' := 0) (n' := 0) F (sw_runS (R := ({ frames := 2, cells := 0, slots := 0, locals := 45 } : Room)) (na := 1) F T.2.1 T.2.2.1 (k_X10_isTransmitter l G t) [] rfl (by decide) gX10_setDamping_X10_isTransmitter rfl rfl rfl (by decide +kernel) ⟨Nat.le_of_ble_eq_true rfl, Nat.le_of_ble_eq_true rfl⟩ rfl rfl (Nat.le_of_ble_eq_true rfl) dX10_setDamping_1 (Nat.le_of_ble_eq_true rfl) (Nat.le_of_ble_eq_true rfl)) [] [0, 1, 2] rfl rfl (by decide) (by decide) rfl rfl (fun r_1 u_2 h_3 => ?_)
  have e_4 : r_1 = f_X10_isTransmitter_r t := h_3
  refine sw_eq (ws' := [(h0, .inr (10, [.ref b0, .ref b1, .int np, .int th, .long hh])), (b0, .inl (G.2.1.2, 344, .inr (.inl S))), (b1, .inl (G.2.1.2, 1032, .inr (.inl P)))]) (lv' := [(0, .ref h0), (1, .int t), (2, .int p)]) (st' := [.int r_1]) rfl rfl rfl ?_
  refine sw_if_ne (pc := 4) (tgt := 13) F dX10_setDamping_4 (by decide) (fun _ => ?_) (fun c => absurd c (by rw [e_4]; exact hf0))
  refine sw_iload_n (pc := 13) F dX10_setDamping_13 rfl 2 rfl ?_
  refine sw_i2l (pc := 14) F dX10_setDamping_14 rfl ?_
  refine sw_lconst (pc := 15) (v := 0) F dX10_setDamping_15 rfl ?_
  refine sw_ldc2 (pc := 16) (v := 8) F (List.mem_of_getElem? (i := 1) rfl) dX10_setDamping_16 ?_
  refine sw_calli (pc := 19) (wr := [(h0, .inr (10, [.ref b0, .ref b1, .int np, .int th, .long hh])), (b0, .inl (G.2.1.2, 344, .inr (.inl S))), (b1, .inl (G.2.1.2, 1032, .inr (.inl P)))]) (k' := 0) (n' := 0) F (sw_runS (R := ({ frames := 2, cells := 0, slots := 0, locals := 45 } : Room)) (na := 3) F T.2.1 T.2.2.1 (k_X10_in l G p.toInt64 0 8) [] rfl (by decide) gX10_setDamping_X10_in rfl rfl rfl (by decide +kernel) ⟨Nat.le_of_ble_eq_true rfl, Nat.le_of_ble_eq_true rfl⟩ rfl rfl (Nat.le_of_ble_eq_true rfl) dX10_setDamping_19 (Nat.le_of_ble_eq_true rfl) (Nat.le_of_ble_eq_true rfl)) [] [0, 1, 2] rfl rfl (by decide) (by decide) rfl rfl (fun r_5 u_6 h_7 => ?_)
  have e_8 : r_5 = f_X10_in_r p.toInt64 0 8 := h_7
  refine sw_eq (ws' := [(h0, .inr (10, [.ref b0, .ref b1, .int np, .int th, .long hh])), (b0, .inl (G.2.1.2, 344, .inr (.inl S))), (b1, .inl (G.2.1.2, 1032, .inr (.inl P)))]) (lv' := [(0, .ref h0), (1, .int t), (2, .int p)]) (st' := [.int r_5]) rfl rfl rfl ?_
  refine sw_if_eq (pc := 22) (tgt := 39) F dX10_setDamping_22 (by decide) (fun _ => ?_) (fun c => absurd (by rw [e_8]; exact hf1) c)
  refine sw_aload_n (pc := 39) F dX10_setDamping_39 rfl 0 rfl ?_
  refine sw_iconst (pc := 40) (v := 2) F dX10_setDamping_40 rfl ?_
  refine sw_calli (pc := 41) (wr := []) (k' := 0) (n' := 0) F (sw_runV (R := ({ frames := 2, cells := 0, slots := 0, locals := 45 } : Room)) (q0 := 0) (na := 1) F T.2.1 T.2.2.1 (k_X10_fails l G h0 b0 b1 np th hh S P 2) [0, 1, 2] rfl (by decide) gX10_setDamping_X10_fails rfl rfl rfl (by decide +kernel) ⟨Nat.le_of_ble_eq_true rfl, Nat.le_of_ble_eq_true rfl⟩ rfl rfl rfl rfl rfl (Nat.le_of_ble_eq_true rfl) dX10_setDamping_41 (Nat.le_of_ble_eq_true rfl) (Nat.le_of_ble_eq_true rfl)) [0, 1, 2] [] rfl rfl (by decide) (by decide) rfl rfl (fun r_9 u_10 h_11 => ?_)
  have e_12 : r_9 = 0 := h_11
  refine sw_eqt (v := .int 0) (by rw [e_12]) ?_
  refine sw_eq (ws' := [(h0, .inr (10, [.ref b0, .ref b1, .int np, .int 2, .long hh])), (b0, .inl (G.2.1.2, 344, .inr (.inl S))), (b1, .inl (G.2.1.2, 1032, .inr (.inl P)))]) (lv' := [(0, .ref h0), (1, .int t), (2, .int p)]) (st' := [.int 0]) rfl rfl rfl ?_
  subst e_8
  subst e_4
  exact sw_iret (pc := 44) F T rfl rfl () rfl rfl dX10_setDamping_44
set_option maxHeartbeats 4000000 in
set_option maxRecDepth 100000 in
theorem k_X10_setRaw_f1 (l : Launch) (G : sw_E) (h0 : Nat) (b0 : Nat) (b1 : Nat) (np : Int32) (th : Int32) (hh : Int64) (S : Nat → Int64) (P : Nat → Int64) (t : Int32) (p : Int32) (hf0 : f_X10_isTransmitter_r t = 0) : sw_M l G yX10_setRaw wsX10_setRaw ({ frames := 2, cells := 0, slots := 0, locals := 45 } : Room) [.ref h0, .int t, .int p] [(h0, .inr (10, [.ref b0, .ref b1, .int np, .int th, .long hh])), (b0, .inl (G.2.1.2, 344, .inr (.inl S))), (b1, .inl (G.2.1.2, 1032, .inr (.inl P)))] (sw_QI G (S := Unit) (fun (r : Int32) (_ : Unit) => r = 0) (fun _ => [(h0, .inr (10, [.ref b0, .ref b1, .int np, .int 1, .long hh])), (b0, .inl (G.2.1.2, 344, .inr (.inl S))), (b1, .inl (G.2.1.2, 1032, .inr (.inl P)))])) 0 0 := by
  refine sw_start (cc := cX10_setRaw) (maxL := 3) (ret := some .int) (lv := [(0, .ref h0), (1, .int t), (2, .int p)]) (own := RX10) (nm := "setRaw") (by decide +kernel) rfl rfl rfl rfl (Nat.le_of_ble_eq_true rfl) (fun C F T => ?_)
  refine sw_iload_n (pc := 0) F dX10_setRaw_0 rfl 1 rfl ?_
  refine sw_calli (pc := 1) (wr := [(h0, .inr (10, [.ref b0, .ref b1, .int np, .int th, .long hh])), (b0, .inl (G.2.1.2, 344, .inr (.inl S))), (b1, .inl (G.2.1.2, 1032, .inr (.inl P)))]) (k' := 0) (n' := 0) F (sw_runS (R := ({ frames := 2, cells := 0, slots := 0, locals := 45 } : Room)) (na := 1) F T.2.1 T.2.2.1 (k_X10_isTransmitter l G t) [] rfl (by decide) gX10_setRaw_X10_isTransmitter rfl rfl rfl (by decide +kernel) ⟨Nat.le_of_ble_eq_true rfl, Nat.le_of_ble_eq_true rfl⟩ rfl rfl (Nat.le_of_ble_eq_true rfl) dX10_setRaw_1 (Nat.le_of_ble_eq_true rfl) (Nat.le_of_ble_eq_true rfl)) [] [0, 1, 2] rfl rfl (by decide) (by decide) rfl rfl (fun r_1 u_2 h_3 => ?_)
  have e_4 : r_1 = f_X10_isTransmitter_r t := h_3
  refine sw_eq (ws' := [(h0, .inr (10, [.ref b0, .ref b1, .int np, .int th, .long hh])), (b0, .inl (G.2.1.2, 344, .inr (.inl S))), (b1, .inl (G.2.1.2, 1032, .inr (.inl P)))]) (lv' := [(0, .ref h0), (1, .int t), (2, .int p)]) (st' := [.int r_1]) rfl rfl rfl ?_
  refine sw_if_ne (pc := 4) (tgt := 13) F dX10_setRaw_4 (by decide) (fun c => absurd (by rw [e_4]; exact hf0) c) (fun _ => ?_)
  refine sw_aload_n (pc := 7) F dX10_setRaw_7 rfl 0 rfl ?_
  refine sw_iconst (pc := 8) (v := 1) F dX10_setRaw_8 rfl ?_
  refine sw_calli (pc := 9) (wr := []) (k' := 0) (n' := 0) F (sw_runV (R := ({ frames := 2, cells := 0, slots := 0, locals := 45 } : Room)) (q0 := 0) (na := 1) F T.2.1 T.2.2.1 (k_X10_fails l G h0 b0 b1 np th hh S P 1) [0, 1, 2] rfl (by decide) gX10_setRaw_X10_fails rfl rfl rfl (by decide +kernel) ⟨Nat.le_of_ble_eq_true rfl, Nat.le_of_ble_eq_true rfl⟩ rfl rfl rfl rfl rfl (Nat.le_of_ble_eq_true rfl) dX10_setRaw_9 (Nat.le_of_ble_eq_true rfl) (Nat.le_of_ble_eq_true rfl)) [0, 1, 2] [] rfl rfl (by decide) (by decide) rfl rfl (fun r_5 u_6 h_7 => ?_)
  have e_8 : r_5 = 0 := h_7
  refine sw_eqt (v := .int 0) (by rw [e_8]) ?_
  refine sw_eq (ws' := [(h0, .inr (10, [.ref b0, .ref b1, .int np, .int 1, .long hh])), (b0, .inl (G.2.1.2, 344, .inr (.inl S))), (b1, .inl (G.2.1.2, 1032, .inr (.inl P)))]) (lv' := [(0, .ref h0), (1, .int t), (2, .int p)]) (st' := [.int 0]) rfl rfl rfl ?_
  subst e_4
  exact sw_iret (pc := 12) F T rfl rfl () rfl rfl dX10_setRaw_12
set_option maxHeartbeats 4000000 in
set_option maxRecDepth 100000 in
theorem k_X10_setRaw_f2 (l : Launch) (G : sw_E) (h0 : Nat) (b0 : Nat) (b1 : Nat) (np : Int32) (th : Int32) (hh : Int64) (S : Nat → Int64) (P : Nat → Int64) (t : Int32) (p : Int32) (hf0 : ¬ f_X10_isTransmitter_r t = 0) (hf1 : f_X10_in_r p.toInt64 0 65535 = 0) : sw_M l G yX10_setRaw wsX10_setRaw ({ frames := 2, cells := 0, slots := 0, locals := 45 } : Room) [.ref h0, .int t, .int p] [(h0, .inr (10, [.ref b0, .ref b1, .int np, .int th, .long hh])), (b0, .inl (G.2.1.2, 344, .inr (.inl S))), (b1, .inl (G.2.1.2, 1032, .inr (.inl P)))] (sw_QI G (S := Unit) (fun (r : Int32) (_ : Unit) => r = 0) (fun _ => [(h0, .inr (10, [.ref b0, .ref b1, .int np, .int 2, .long hh])), (b0, .inl (G.2.1.2, 344, .inr (.inl S))), (b1, .inl (G.2.1.2, 1032, .inr (.inl P)))])) 0 0 := by
  refine sw_start (cc := cX10_setRaw) (maxL := 3) (ret := some .int) (lv := [(0, .ref h0), (1, .int t), (2, .int p)]) (own := RX10) (nm := "setRaw") (by decide +kernel) rfl rfl rfl rfl (Nat.le_of_ble_eq_true rfl) (fun C F T => ?_)
  refine sw_iload_n (pc := 0) F dX10_setRaw_0 rfl 1 rfl ?_
  refine sw_calli (pc := 1) (wr := [(h0, .inr (10, [.ref b0, .ref b1, .int np, .int th, .long hh])), (b0, .inl (G.2.1.2, 344, .inr (.inl S))), (b1, .inl (G.2.1.2, 1032, .inr (.inl P)))]) (k' := 0) (n' := 0) F (sw_runS (R := ({ frames := 2, cells := 0, slots := 0, locals := 45 } : Room)) (na := 1) F T.2.1 T.2.2.1 (k_X10_isTransmitter l G t) [] rfl (by decide) gX10_setRaw_X10_isTransmitter rfl rfl rfl (by decide +kernel) ⟨Nat.le_of_ble_eq_true rfl, Nat.le_of_ble_eq_true rfl⟩ rfl rfl (Nat.le_of_ble_eq_true rfl) dX10_setRaw_1 (Nat.le_of_ble_eq_true rfl) (Nat.le_of_ble_eq_true rfl)) [] [0, 1, 2] rfl rfl (by decide) (by decide) rfl rfl (fun r_1 u_2 h_3 => ?_)
  have e_4 : r_1 = f_X10_isTransmitter_r t := h_3
  refine sw_eq (ws' := [(h0, .inr (10, [.ref b0, .ref b1, .int np, .int th, .long hh])), (b0, .inl (G.2.1.2, 344, .inr (.inl S))), (b1, .inl (G.2.1.2, 1032, .inr (.inl P)))]) (lv' := [(0, .ref h0), (1, .int t), (2, .int p)]) (st' := [.int r_1]) rfl rfl rfl ?_
  refine sw_if_ne (pc := 4) (tgt := 13) F dX10_setRaw_4 (by decide) (fun _ => ?_) (fun c => absurd c (by rw [e_4]; exact hf0))
  refine sw_iload_n (pc := 13) F dX10_setRaw_13 rfl 2 rfl ?_
  refine sw_i2l (pc := 14) F dX10_setRaw_14 rfl ?_
  refine sw_lconst (pc := 15) (v := 0) F dX10_setRaw_15 rfl ?_
  refine sw_ldc2 (pc := 16) (v := 65535) F (List.mem_of_getElem? (i := 1) rfl) dX10_setRaw_16 ?_
  refine sw_calli (pc := 19) (wr := [(h0, .inr (10, [.ref b0, .ref b1, .int np, .int th, .long hh])), (b0, .inl (G.2.1.2, 344, .inr (.inl S))), (b1, .inl (G.2.1.2, 1032, .inr (.inl P)))]) (k' := 0) (n' := 0) F (sw_runS (R := ({ frames := 2, cells := 0, slots := 0, locals := 45 } : Room)) (na := 3) F T.2.1 T.2.2.1 (k_X10_in l G p.toInt64 0 65535) [] rfl (by decide) gX10_setRaw_X10_in rfl rfl rfl (by decide +kernel) ⟨Nat.le_of_ble_eq_true rfl, Nat.le_of_ble_eq_true rfl⟩ rfl rfl (Nat.le_of_ble_eq_true rfl) dX10_setRaw_19 (Nat.le_of_ble_eq_true rfl) (Nat.le_of_ble_eq_true rfl)) [] [0, 1, 2] rfl rfl (by decide) (by decide) rfl rfl (fun r_5 u_6 h_7 => ?_)
  have e_8 : r_5 = f_X10_in_r p.toInt64 0 65535 := h_7
  refine sw_eq (ws' := [(h0, .inr (10, [.ref b0, .ref b1, .int np, .int th, .long hh])), (b0, .inl (G.2.1.2, 344, .inr (.inl S))), (b1, .inl (G.2.1.2, 1032, .inr (.inl P)))]) (lv' := [(0, .ref h0), (1, .int t), (2, .int p)]) (st' := [.int r_5]) rfl rfl rfl ?_
  refine sw_if_ne (pc := 22) (tgt := 31) F dX10_setRaw_22 (by decide) (fun c => absurd (by rw [e_8]; exact hf1) c) (fun _ => ?_)
  refine sw_aload_n (pc := 25) F dX10_setRaw_25 rfl 0 rfl ?_
  refine sw_iconst (pc := 26) (v := 2) F dX10_setRaw_26 rfl ?_
  refine sw_calli (pc := 27) (wr := []) (k' := 0) (n' := 0) F (sw_runV (R := ({ frames := 2, cells := 0, slots := 0, locals := 45 } : Room)) (q0 := 0) (na := 1) F T.2.1 T.2.2.1 (k_X10_fails l G h0 b0 b1 np th hh S P 2) [0, 1, 2] rfl (by decide) gX10_setRaw_X10_fails rfl rfl rfl (by decide +kernel) ⟨Nat.le_of_ble_eq_true rfl, Nat.le_of_ble_eq_true rfl⟩ rfl rfl rfl rfl rfl (Nat.le_of_ble_eq_true rfl) dX10_setRaw_27 (Nat.le_of_ble_eq_true rfl) (Nat.le_of_ble_eq_true rfl)) [0, 1, 2] [] rfl rfl (by decide) (by decide) rfl rfl (fun r_9 u_10 h_11 => ?_)
  have e_12 : r_9 = 0 := h_11
  refine sw_eqt (v := .int 0) (by rw [e_12]) ?_
  refine sw_eq (ws' := [(h0, .inr (10, [.ref b0, .ref b1, .int np, .int 2, .long hh])), (b0, .inl (G.2.1.2, 344, .inr (.inl S))), (b1, .inl (G.2.1.2, 1032, .inr (.inl P)))]) (lv' := [(0, .ref h0), (1, .int t), (2, .int p)]) (st' := [.int 0]) rfl rfl rfl ?_
  subst e_8
  subst e_4
  exact sw_iret (pc := 30) F T rfl rfl () rfl rfl dX10_setRaw_30
set_option maxHeartbeats 4000000 in
set_option maxRecDepth 100000 in
theorem k_X10_transmitter_f1 (l : Launch) (G : sw_E) (h0 : Nat) (b0 : Nat) (b1 : Nat) (np : Int32) (th : Int32) (hh : Int64) (S : Nat → Int64) (P : Nat → Int64) (t : Int32) (p : Int32) (hf0 : f_X10_isTransmitter_r t = 0) : sw_M l G yX10_transmitter wsX10_transmitter ({ frames := 2, cells := 0, slots := 0, locals := 45 } : Room) [.ref h0, .int t, .int p] [(h0, .inr (10, [.ref b0, .ref b1, .int np, .int th, .long hh])), (b0, .inl (G.2.1.2, 344, .inr (.inl S))), (b1, .inl (G.2.1.2, 1032, .inr (.inl P)))] (sw_QI G (S := Unit) (fun (r : Int32) (_ : Unit) => r = 0) (fun _ => [(h0, .inr (10, [.ref b0, .ref b1, .int np, .int 1, .long hh])), (b0, .inl (G.2.1.2, 344, .inr (.inl S))), (b1, .inl (G.2.1.2, 1032, .inr (.inl P)))])) 0 0 := by
  refine sw_start (cc := cX10_transmitter) (maxL := 3) (ret := some .int) (lv := [(0, .ref h0), (1, .int t), (2, .int p)]) (own := RX10) (nm := "transmitter") (by decide +kernel) rfl rfl rfl rfl (Nat.le_of_ble_eq_true rfl) (fun C F T => ?_)
  refine sw_iload_n (pc := 0) F dX10_transmitter_0 rfl 1 rfl ?_
  refine sw_calli (pc := 1) (wr := [(h0, .inr (10, [.ref b0, .ref b1, .int np, .int th, .long hh])), (b0, .inl (G.2.1.2, 344, .inr (.inl S))), (b1, .inl (G.2.1.2, 1032, .inr (.inl P)))]) (k' := 0) (n' := 0) F (sw_runS (R := ({ frames := 2, cells := 0, slots := 0, locals := 45 } : Room)) (na := 1) F T.2.1 T.2.2.1 (k_X10_isTransmitter l G t) [] rfl (by decide) gX10_transmitter_X10_isTransmitter rfl rfl rfl (by decide +kernel) ⟨Nat.le_of_ble_eq_true rfl, Nat.le_of_ble_eq_true rfl⟩ rfl rfl (Nat.le_of_ble_eq_true rfl) dX10_transmitter_1 (Nat.le_of_ble_eq_true rfl) (Nat.le_of_ble_eq_true rfl)) [] [0, 1, 2] rfl rfl (by decide) (by decide) rfl rfl (fun r_1 u_2 h_3 => ?_)
  have e_4 : r_1 = f_X10_isTransmitter_r t := h_3
  refine sw_eq (ws' := [(h0, .inr (10, [.ref b0, .ref b1, .int np, .int th, .long hh])), (b0, .inl (G.2.1.2, 344, .inr (.inl S))), (b1, .inl (G.2.1.2, 1032, .inr (.inl P)))]) (lv' := [(0, .ref h0), (1, .int t), (2, .int p)]) (st' := [.int r_1]) rfl rfl rfl ?_
  refine sw_if_ne (pc := 4) (tgt := 13) F dX10_transmitter_4 (by decide) (fun c => absurd (by rw [e_4]; exact hf0) c) (fun _ => ?_)
  refine sw_aload_n (pc := 7) F dX10_transmitter_7 rfl 0 rfl ?_
  refine sw_iconst (pc := 8) (v := 1) F dX10_transmitter_8 rfl ?_
  refine sw_calli (pc := 9) (wr := []) (k' := 0) (n' := 0) F (sw_runV (R := ({ frames := 2, cells := 0, slots := 0, locals := 45 } : Room)) (q0 := 0) (na := 1) F T.2.1 T.2.2.1 (k_X10_fails l G h0 b0 b1 np th hh S P 1) [0, 1, 2] rfl (by decide) gX10_transmitter_X10_fails rfl rfl rfl (by decide +kernel) ⟨Nat.le_of_ble_eq_true rfl, Nat.le_of_ble_eq_true rfl⟩ rfl rfl rfl rfl rfl (Nat.le_of_ble_eq_true rfl) dX10_transmitter_9 (Nat.le_of_ble_eq_true rfl) (Nat.le_of_ble_eq_true rfl)) [0, 1, 2] [] rfl rfl (by decide) (by decide) rfl rfl (fun r_5 u_6 h_7 => ?_)
  have e_8 : r_5 = 0 := h_7
  refine sw_eqt (v := .int 0) (by rw [e_8]) ?_
  refine sw_eq (ws' := [(h0, .inr (10, [.ref b0, .ref b1, .int np, .int 1, .long hh])), (b0, .inl (G.2.1.2, 344, .inr (.inl S))), (b1, .inl (G.2.1.2, 1032, .inr (.inl P)))]) (lv' := [(0, .ref h0), (1, .int t), (2, .int p)]) (st' := [.int 0]) rfl rfl rfl ?_
  subst e_4
  exact sw_iret (pc := 12) F T rfl rfl () rfl rfl dX10_transmitter_12
set_option maxHeartbeats 4000000 in
set_option maxRecDepth 100000 in
theorem k_X10_transmitter_f2 (l : Launch) (G : sw_E) (h0 : Nat) (b0 : Nat) (b1 : Nat) (np : Int32) (th : Int32) (hh : Int64) (S : Nat → Int64) (P : Nat → Int64) (t : Int32) (p : Int32) (hf0 : ¬ f_X10_isTransmitter_r t = 0) (hf1 : f_X10_in_r p.toInt64 0 3 = 0) : sw_M l G yX10_transmitter wsX10_transmitter ({ frames := 2, cells := 0, slots := 0, locals := 45 } : Room) [.ref h0, .int t, .int p] [(h0, .inr (10, [.ref b0, .ref b1, .int np, .int th, .long hh])), (b0, .inl (G.2.1.2, 344, .inr (.inl S))), (b1, .inl (G.2.1.2, 1032, .inr (.inl P)))] (sw_QI G (S := Unit) (fun (r : Int32) (_ : Unit) => r = 0) (fun _ => [(h0, .inr (10, [.ref b0, .ref b1, .int np, .int 2, .long hh])), (b0, .inl (G.2.1.2, 344, .inr (.inl S))), (b1, .inl (G.2.1.2, 1032, .inr (.inl P)))])) 0 0 := by
  refine sw_start (cc := cX10_transmitter) (maxL := 3) (ret := some .int) (lv := [(0, .ref h0), (1, .int t), (2, .int p)]) (own := RX10) (nm := "transmitter") (by decide +kernel) rfl rfl rfl rfl (Nat.le_of_ble_eq_true rfl) (fun C F T => ?_)
  refine sw_iload_n (pc := 0) F dX10_transmitter_0 rfl 1 rfl ?_
  refine sw_calli (pc := 1) (wr := [(h0, .inr (10, [.ref b0, .ref b1, .int np, .int th, .long hh])), (b0, .inl (G.2.1.2, 344, .inr (.inl S))), (b1, .inl (G.2.1.2, 1032, .inr (.inl P)))]) (k' := 0) (n' := 0) F (sw_runS (R := ({ frames := 2, cells := 0, slots := 0, locals := 45 } : Room)) (na := 1) F T.2.1 T.2.2.1 (k_X10_isTransmitter l G t) [] rfl (by decide) gX10_transmitter_X10_isTransmitter rfl rfl rfl (by decide +kernel) ⟨Nat.le_of_ble_eq_true rfl, Nat.le_of_ble_eq_true rfl⟩ rfl rfl (Nat.le_of_ble_eq_true rfl) dX10_transmitter_1 (Nat.le_of_ble_eq_true rfl) (Nat.le_of_ble_eq_true rfl)) [] [0, 1, 2] rfl rfl (by decide) (by decide) rfl rfl (fun r_1 u_2 h_3 => ?_)
  have e_4 : r_1 = f_X10_isTransmitter_r t := h_3
  refine sw_eq (ws' := [(h0, .inr (10, [.ref b0, .ref b1, .int np, .int th, .long hh])), (b0, .inl (G.2.1.2, 344, .inr (.inl S))), (b1, .inl (G.2.1.2, 1032, .inr (.inl P)))]) (lv' := [(0, .ref h0), (1, .int t), (2, .int p)]) (st' := [.int r_1]) rfl rfl rfl ?_
  refine sw_if_ne (pc := 4) (tgt := 13) F dX10_transmitter_4 (by decide) (fun _ => ?_) (fun c => absurd c (by rw [e_4]; exact hf0))
  refine sw_iload_n (pc := 13) F dX10_transmitter_13 rfl 2 rfl ?_
  refine sw_i2l (pc := 14) F dX10_transmitter_14 rfl ?_
  refine sw_lconst (pc := 15) (v := 0) F dX10_transmitter_15 rfl ?_
  refine sw_ldc2 (pc := 16) (v := 3) F (List.mem_of_getElem? (i := 1) rfl) dX10_transmitter_16 ?_
  refine sw_calli (pc := 19) (wr := [(h0, .inr (10, [.ref b0, .ref b1, .int np, .int th, .long hh])), (b0, .inl (G.2.1.2, 344, .inr (.inl S))), (b1, .inl (G.2.1.2, 1032, .inr (.inl P)))]) (k' := 0) (n' := 0) F (sw_runS (R := ({ frames := 2, cells := 0, slots := 0, locals := 45 } : Room)) (na := 3) F T.2.1 T.2.2.1 (k_X10_in l G p.toInt64 0 3) [] rfl (by decide) gX10_transmitter_X10_in rfl rfl rfl (by decide +kernel) ⟨Nat.le_of_ble_eq_true rfl, Nat.le_of_ble_eq_true rfl⟩ rfl rfl (Nat.le_of_ble_eq_true rfl) dX10_transmitter_19 (Nat.le_of_ble_eq_true rfl) (Nat.le_of_ble_eq_true rfl)) [] [0, 1, 2] rfl rfl (by decide) (by decide) rfl rfl (fun r_5 u_6 h_7 => ?_)
  have e_8 : r_5 = f_X10_in_r p.toInt64 0 3 := h_7
  refine sw_eq (ws' := [(h0, .inr (10, [.ref b0, .ref b1, .int np, .int th, .long hh])), (b0, .inl (G.2.1.2, 344, .inr (.inl S))), (b1, .inl (G.2.1.2, 1032, .inr (.inl P)))]) (lv' := [(0, .ref h0), (1, .int t), (2, .int p)]) (st' := [.int r_5]) rfl rfl rfl ?_
  refine sw_if_ne (pc := 22) (tgt := 31) F dX10_transmitter_22 (by decide) (fun c => absurd (by rw [e_8]; exact hf1) c) (fun _ => ?_)
  refine sw_aload_n (pc := 25) F dX10_transmitter_25 rfl 0 rfl ?_
  refine sw_iconst (pc := 26) (v := 2) F dX10_transmitter_26 rfl ?_
  refine sw_calli (pc := 27) (wr := []) (k' := 0) (n' := 0) F (sw_runV (R := ({ frames := 2, cells := 0, slots := 0, locals := 45 } : Room)) (q0 := 0) (na := 1) F T.2.1 T.2.2.1 (k_X10_fails l G h0 b0 b1 np th hh S P 2) [0, 1, 2] rfl (by decide) gX10_transmitter_X10_fails rfl rfl rfl (by decide +kernel) ⟨Nat.le_of_ble_eq_true rfl, Nat.le_of_ble_eq_true rfl⟩ rfl rfl rfl rfl rfl (Nat.le_of_ble_eq_true rfl) dX10_transmitter_27 (Nat.le_of_ble_eq_true rfl) (Nat.le_of_ble_eq_true rfl)) [0, 1, 2] [] rfl rfl (by decide) (by decide) rfl rfl (fun r_9 u_10 h_11 => ?_)
  have e_12 : r_9 = 0 := h_11
  refine sw_eqt (v := .int 0) (by rw [e_12]) ?_
  refine sw_eq (ws' := [(h0, .inr (10, [.ref b0, .ref b1, .int np, .int 2, .long hh])), (b0, .inl (G.2.1.2, 344, .inr (.inl S))), (b1, .inl (G.2.1.2, 1032, .inr (.inl P)))]) (lv' := [(0, .ref h0), (1, .int t), (2, .int p)]) (st' := [.int 0]) rfl rfl rfl ?_
  subst e_8
  subst e_4
  exact sw_iret (pc := 30) F T rfl rfl () rfl rfl dX10_transmitter_30
set_option maxHeartbeats 4000000 in
set_option maxRecDepth 100000 in
theorem k_X10_setDensity_f1 (l : Launch) (G : sw_E) (h0 : Nat) (b0 : Nat) (b1 : Nat) (np : Int32) (th : Int32) (hh : Int64) (S : Nat → Int64) (P : Nat → Int64) (t : Int32) (p : Int32) (hf0 : f_X10_in_r t.toInt64 0 5 = 0) : sw_M l G yX10_setDensity wsX10_setDensity ({ frames := 1, cells := 0, slots := 0, locals := 25 } : Room) [.ref h0, .int t, .int p] [(h0, .inr (10, [.ref b0, .ref b1, .int np, .int th, .long hh])), (b0, .inl (G.2.1.2, 344, .inr (.inl S))), (b1, .inl (G.2.1.2, 1032, .inr (.inl P)))] (sw_QI G (S := Unit) (fun (r : Int32) (_ : Unit) => r = 0) (fun _ => [(h0, .inr (10, [.ref b0, .ref b1, .int np, .int 1, .long hh])), (b0, .inl (G.2.1.2, 344, .inr (.inl S))), (b1, .inl (G.2.1.2, 1032, .inr (.inl P)))])) 0 0 := by
  refine sw_start (cc := cX10_setDensity) (maxL := 3) (ret := some .int) (lv := [(0, .ref h0), (1, .int t), (2, .int p)]) (own := RX10) (nm := "setDensity") (by decide +kernel) rfl rfl rfl rfl (Nat.le_of_ble_eq_true rfl) (fun C F T => ?_)
  refine sw_iload_n (pc := 0) F dX10_setDensity_0 rfl 1 rfl ?_
  refine sw_i2l (pc := 1) F dX10_setDensity_1 rfl ?_
  refine sw_lconst (pc := 2) (v := 0) F dX10_setDensity_2 rfl ?_
  refine sw_ldc2 (pc := 3) (v := 5) F (List.mem_of_getElem? (i := 1) rfl) dX10_setDensity_3 ?_
  refine sw_calli (pc := 6) (wr := [(h0, .inr (10, [.ref b0, .ref b1, .int np, .int th, .long hh])), (b0, .inl (G.2.1.2, 344, .inr (.inl S))), (b1, .inl (G.2.1.2, 1032, .inr (.inl P)))]) (k' := 0) (n' := 0) F (sw_runS (R := ({ frames := 1, cells := 0, slots := 0, locals := 25 } : Room)) (na := 3) F T.2.1 T.2.2.1 (k_X10_in l G t.toInt64 0 5) [] rfl (by decide) gX10_setDensity_X10_in rfl rfl rfl (by decide +kernel) ⟨Nat.le_of_ble_eq_true rfl, Nat.le_of_ble_eq_true rfl⟩ rfl rfl (Nat.le_of_ble_eq_true rfl) dX10_setDensity_6 (Nat.le_of_ble_eq_true rfl) (Nat.le_of_ble_eq_true rfl)) [] [0, 1, 2] rfl rfl (by decide) (by decide) rfl rfl (fun r_1 u_2 h_3 => ?_)
  have e_4 : r_1 = f_X10_in_r t.toInt64 0 5 := h_3
  refine sw_eq (ws' := [(h0, .inr (10, [.ref b0, .ref b1, .int np, .int th, .long hh])), (b0, .inl (G.2.1.2, 344, .inr (.inl S))), (b1, .inl (G.2.1.2, 1032, .inr (.inl P)))]) (lv' := [(0, .ref h0), (1, .int t), (2, .int p)]) (st' := [.int r_1]) rfl rfl rfl ?_
  refine sw_if_ne (pc := 9) (tgt := 18) F dX10_setDensity_9 (by decide) (fun c => absurd (by rw [e_4]; exact hf0) c) (fun _ => ?_)
  refine sw_aload_n (pc := 12) F dX10_setDensity_12 rfl 0 rfl ?_
  refine sw_iconst (pc := 13) (v := 1) F dX10_setDensity_13 rfl ?_
  refine sw_calli (pc := 14) (wr := []) (k' := 0) (n' := 0) F (sw_runV (R := ({ frames := 1, cells := 0, slots := 0, locals := 25 } : Room)) (q0 := 0) (na := 1) F T.2.1 T.2.2.1 (k_X10_fails l G h0 b0 b1 np th hh S P 1) [0, 1, 2] rfl (by decide) gX10_setDensity_X10_fails rfl rfl rfl (by decide +kernel) ⟨Nat.le_of_ble_eq_true rfl, Nat.le_of_ble_eq_true rfl⟩ rfl rfl rfl rfl rfl (Nat.le_of_ble_eq_true rfl) dX10_setDensity_14 (Nat.le_of_ble_eq_true rfl) (Nat.le_of_ble_eq_true rfl)) [0, 1, 2] [] rfl rfl (by decide) (by decide) rfl rfl (fun r_5 u_6 h_7 => ?_)
  have e_8 : r_5 = 0 := h_7
  refine sw_eqt (v := .int 0) (by rw [e_8]) ?_
  refine sw_eq (ws' := [(h0, .inr (10, [.ref b0, .ref b1, .int np, .int 1, .long hh])), (b0, .inl (G.2.1.2, 344, .inr (.inl S))), (b1, .inl (G.2.1.2, 1032, .inr (.inl P)))]) (lv' := [(0, .ref h0), (1, .int t), (2, .int p)]) (st' := [.int 0]) rfl rfl rfl ?_
  subst e_4
  exact sw_iret (pc := 17) F T rfl rfl () rfl rfl dX10_setDensity_17
set_option maxHeartbeats 4000000 in
set_option maxRecDepth 100000 in
theorem k_X10_setDensity_f2 (l : Launch) (G : sw_E) (h0 : Nat) (b0 : Nat) (b1 : Nat) (np : Int32) (th : Int32) (hh : Int64) (S : Nat → Int64) (P : Nat → Int64) (t : Int32) (p : Int32) (hf0 : ¬ f_X10_in_r t.toInt64 0 5 = 0) (hf1 : f_X10_in_r p.toInt64 1 20000 = 0) : sw_M l G yX10_setDensity wsX10_setDensity ({ frames := 1, cells := 0, slots := 0, locals := 25 } : Room) [.ref h0, .int t, .int p] [(h0, .inr (10, [.ref b0, .ref b1, .int np, .int th, .long hh])), (b0, .inl (G.2.1.2, 344, .inr (.inl S))), (b1, .inl (G.2.1.2, 1032, .inr (.inl P)))] (sw_QI G (S := Unit) (fun (r : Int32) (_ : Unit) => r = 0) (fun _ => [(h0, .inr (10, [.ref b0, .ref b1, .int np, .int 2, .long hh])), (b0, .inl (G.2.1.2, 344, .inr (.inl S))), (b1, .inl (G.2.1.2, 1032, .inr (.inl P)))])) 0 0 := by
  refine sw_start (cc := cX10_setDensity) (maxL := 3) (ret := some .int) (lv := [(0, .ref h0), (1, .int t), (2, .int p)]) (own := RX10) (nm := "setDensity") (by decide +kernel) rfl rfl rfl rfl (Nat.le_of_ble_eq_true rfl) (fun C F T => ?_)
  refine sw_iload_n (pc := 0) F dX10_setDensity_0 rfl 1 rfl ?_
  refine sw_i2l (pc := 1) F dX10_setDensity_1 rfl ?_
  refine sw_lconst (pc := 2) (v := 0) F dX10_setDensity_2 rfl ?_
  refine sw_ldc2 (pc := 3) (v := 5) F (List.mem_of_getElem? (i := 1) rfl) dX10_setDensity_3 ?_
  refine sw_calli (pc := 6) (wr := [(h0, .inr (10, [.ref b0, .ref b1, .int np, .int th, .long hh])), (b0, .inl (G.2.1.2, 344, .inr (.inl S))), (b1, .inl (G.2.1.2, 1032, .inr (.inl P)))]) (k' := 0) (n' := 0) F (sw_runS (R := ({ frames := 1, cells := 0, slots := 0, locals := 25 } : Room)) (na := 3) F T.2.1 T.2.2.1 (k_X10_in l G t.toInt64 0 5) [] rfl (by decide) gX10_setDensity_X10_in rfl rfl rfl (by decide +kernel) ⟨Nat.le_of_ble_eq_true rfl, Nat.le_of_ble_eq_true rfl⟩ rfl rfl (Nat.le_of_ble_eq_true rfl) dX10_setDensity_6 (Nat.le_of_ble_eq_true rfl) (Nat.le_of_ble_eq_true rfl)) [] [0, 1, 2] rfl rfl (by decide) (by decide) rfl rfl (fun r_1 u_2 h_3 => ?_)
  have e_4 : r_1 = f_X10_in_r t.toInt64 0 5 := h_3
  refine sw_eq (ws' := [(h0, .inr (10, [.ref b0, .ref b1, .int np, .int th, .long hh])), (b0, .inl (G.2.1.2, 344, .inr (.inl S))), (b1, .inl (G.2.1.2, 1032, .inr (.inl P)))]) (lv' := [(0, .ref h0), (1, .int t), (2, .int p)]) (st' := [.int r_1]) rfl rfl rfl ?_
  refine sw_if_ne (pc := 9) (tgt := 18) F dX10_setDensity_9 (by decide) (fun _ => ?_) (fun c => absurd c (by rw [e_4]; exact hf0))
  refine sw_iload_n (pc := 18) F dX10_setDensity_18 rfl 2 rfl ?_
  refine sw_i2l (pc := 19) F dX10_setDensity_19 rfl ?_
  refine sw_lconst (pc := 20) (v := 1) F dX10_setDensity_20 rfl ?_
  refine sw_ldc2 (pc := 21) (v := 20000) F (List.mem_of_getElem? (i := 2) rfl) dX10_setDensity_21 ?_
  refine sw_calli (pc := 24) (wr := [(h0, .inr (10, [.ref b0, .ref b1, .int np, .int th, .long hh])), (b0, .inl (G.2.1.2, 344, .inr (.inl S))), (b1, .inl (G.2.1.2, 1032, .inr (.inl P)))]) (k' := 0) (n' := 0) F (sw_runS (R := ({ frames := 1, cells := 0, slots := 0, locals := 25 } : Room)) (na := 3) F T.2.1 T.2.2.1 (k_X10_in l G p.toInt64 1 20000) [] rfl (by decide) gX10_setDensity_X10_in rfl rfl rfl (by decide +kernel) ⟨Nat.le_of_ble_eq_true rfl, Nat.le_of_ble_eq_true rfl⟩ rfl rfl (Nat.le_of_ble_eq_true rfl) dX10_setDensity_24 (Nat.le_of_ble_eq_true rfl) (Nat.le_of_ble_eq_true rfl)) [] [0, 1, 2] rfl rfl (by decide) (by decide) rfl rfl (fun r_5 u_6 h_7 => ?_)
  have e_8 : r_5 = f_X10_in_r p.toInt64 1 20000 := h_7
  refine sw_eq (ws' := [(h0, .inr (10, [.ref b0, .ref b1, .int np, .int th, .long hh])), (b0, .inl (G.2.1.2, 344, .inr (.inl S))), (b1, .inl (G.2.1.2, 1032, .inr (.inl P)))]) (lv' := [(0, .ref h0), (1, .int t), (2, .int p)]) (st' := [.int r_5]) rfl rfl rfl ?_
  refine sw_if_eq (pc := 27) (tgt := 44) F dX10_setDensity_27 (by decide) (fun _ => ?_) (fun c => absurd (by rw [e_8]; exact hf1) c)
  refine sw_aload_n (pc := 44) F dX10_setDensity_44 rfl 0 rfl ?_
  refine sw_iconst (pc := 45) (v := 2) F dX10_setDensity_45 rfl ?_
  refine sw_calli (pc := 46) (wr := []) (k' := 0) (n' := 0) F (sw_runV (R := ({ frames := 1, cells := 0, slots := 0, locals := 25 } : Room)) (q0 := 0) (na := 1) F T.2.1 T.2.2.1 (k_X10_fails l G h0 b0 b1 np th hh S P 2) [0, 1, 2] rfl (by decide) gX10_setDensity_X10_fails rfl rfl rfl (by decide +kernel) ⟨Nat.le_of_ble_eq_true rfl, Nat.le_of_ble_eq_true rfl⟩ rfl rfl rfl rfl rfl (Nat.le_of_ble_eq_true rfl) dX10_setDensity_46 (Nat.le_of_ble_eq_true rfl) (Nat.le_of_ble_eq_true rfl)) [0, 1, 2] [] rfl rfl (by decide) (by decide) rfl rfl (fun r_9 u_10 h_11 => ?_)
  have e_12 : r_9 = 0 := h_11
  refine sw_eqt (v := .int 0) (by rw [e_12]) ?_
  refine sw_eq (ws' := [(h0, .inr (10, [.ref b0, .ref b1, .int np, .int 2, .long hh])), (b0, .inl (G.2.1.2, 344, .inr (.inl S))), (b1, .inl (G.2.1.2, 1032, .inr (.inl P)))]) (lv' := [(0, .ref h0), (1, .int t), (2, .int p)]) (st' := [.int 0]) rfl rfl rfl ?_
  subst e_8
  subst e_4
  exact sw_iret (pc := 49) F T rfl rfl () rfl rfl dX10_setDensity_49
set_option maxHeartbeats 4000000 in
set_option maxRecDepth 100000 in
theorem k_X10_setFactor_f1 (l : Launch) (G : sw_E) (h0 : Nat) (b0 : Nat) (b1 : Nat) (np : Int32) (th : Int32) (hh : Int64) (S : Nat → Int64) (P : Nat → Int64) (t : Int32) (p : Int32) (hf0 : f_X10_in_r t.toInt64 0 4 = 0) : sw_M l G yX10_setFactor wsX10_setFactor ({ frames := 1, cells := 0, slots := 0, locals := 25 } : Room) [.ref h0, .int t, .int p] [(h0, .inr (10, [.ref b0, .ref b1, .int np, .int th, .long hh])), (b0, .inl (G.2.1.2, 344, .inr (.inl S))), (b1, .inl (G.2.1.2, 1032, .inr (.inl P)))] (sw_QI G (S := Unit) (fun (r : Int32) (_ : Unit) => r = 0) (fun _ => [(h0, .inr (10, [.ref b0, .ref b1, .int np, .int 1, .long hh])), (b0, .inl (G.2.1.2, 344, .inr (.inl S))), (b1, .inl (G.2.1.2, 1032, .inr (.inl P)))])) 0 0 := by
  refine sw_start (cc := cX10_setFactor) (maxL := 3) (ret := some .int) (lv := [(0, .ref h0), (1, .int t), (2, .int p)]) (own := RX10) (nm := "setFactor") (by decide +kernel) rfl rfl rfl rfl (Nat.le_of_ble_eq_true rfl) (fun C F T => ?_)
  refine sw_iload_n (pc := 0) F dX10_setFactor_0 rfl 1 rfl ?_
  refine sw_i2l (pc := 1) F dX10_setFactor_1 rfl ?_
  refine sw_lconst (pc := 2) (v := 0) F dX10_setFactor_2 rfl ?_
  refine sw_ldc2 (pc := 3) (v := 4) F (List.mem_of_getElem? (i := 1) rfl) dX10_setFactor_3 ?_
  refine sw_calli (pc := 6) (wr := [(h0, .inr (10, [.ref b0, .ref b1, .int np, .int th, .long hh])), (b0, .inl (G.2.1.2, 344, .inr (.inl S))), (b1, .inl (G.2.1.2, 1032, .inr (.inl P)))]) (k' := 0) (n' := 0) F (sw_runS (R := ({ frames := 1, cells := 0, slots := 0, locals := 25 } : Room)) (na := 3) F T.2.1 T.2.2.1 (k_X10_in l G t.toInt64 0 4) [] rfl (by decide) gX10_setFactor_X10_in rfl rfl rfl (by decide +kernel) ⟨Nat.le_of_ble_eq_true rfl, Nat.le_of_ble_eq_true rfl⟩ rfl rfl (Nat.le_of_ble_eq_true rfl) dX10_setFactor_6 (Nat.le_of_ble_eq_true rfl) (Nat.le_of_ble_eq_true rfl)) [] [0, 1, 2] rfl rfl (by decide) (by decide) rfl rfl (fun r_1 u_2 h_3 => ?_)
  have e_4 : r_1 = f_X10_in_r t.toInt64 0 4 := h_3
  refine sw_eq (ws' := [(h0, .inr (10, [.ref b0, .ref b1, .int np, .int th, .long hh])), (b0, .inl (G.2.1.2, 344, .inr (.inl S))), (b1, .inl (G.2.1.2, 1032, .inr (.inl P)))]) (lv' := [(0, .ref h0), (1, .int t), (2, .int p)]) (st' := [.int r_1]) rfl rfl rfl ?_
  refine sw_if_ne (pc := 9) (tgt := 18) F dX10_setFactor_9 (by decide) (fun c => absurd (by rw [e_4]; exact hf0) c) (fun _ => ?_)
  refine sw_aload_n (pc := 12) F dX10_setFactor_12 rfl 0 rfl ?_
  refine sw_iconst (pc := 13) (v := 1) F dX10_setFactor_13 rfl ?_
  refine sw_calli (pc := 14) (wr := []) (k' := 0) (n' := 0) F (sw_runV (R := ({ frames := 1, cells := 0, slots := 0, locals := 25 } : Room)) (q0 := 0) (na := 1) F T.2.1 T.2.2.1 (k_X10_fails l G h0 b0 b1 np th hh S P 1) [0, 1, 2] rfl (by decide) gX10_setFactor_X10_fails rfl rfl rfl (by decide +kernel) ⟨Nat.le_of_ble_eq_true rfl, Nat.le_of_ble_eq_true rfl⟩ rfl rfl rfl rfl rfl (Nat.le_of_ble_eq_true rfl) dX10_setFactor_14 (Nat.le_of_ble_eq_true rfl) (Nat.le_of_ble_eq_true rfl)) [0, 1, 2] [] rfl rfl (by decide) (by decide) rfl rfl (fun r_5 u_6 h_7 => ?_)
  have e_8 : r_5 = 0 := h_7
  refine sw_eqt (v := .int 0) (by rw [e_8]) ?_
  refine sw_eq (ws' := [(h0, .inr (10, [.ref b0, .ref b1, .int np, .int 1, .long hh])), (b0, .inl (G.2.1.2, 344, .inr (.inl S))), (b1, .inl (G.2.1.2, 1032, .inr (.inl P)))]) (lv' := [(0, .ref h0), (1, .int t), (2, .int p)]) (st' := [.int 0]) rfl rfl rfl ?_
  subst e_4
  exact sw_iret (pc := 17) F T rfl rfl () rfl rfl dX10_setFactor_17
set_option maxHeartbeats 4000000 in
set_option maxRecDepth 100000 in
theorem k_X10_setFactor_f2 (l : Launch) (G : sw_E) (h0 : Nat) (b0 : Nat) (b1 : Nat) (np : Int32) (th : Int32) (hh : Int64) (S : Nat → Int64) (P : Nat → Int64) (t : Int32) (p : Int32) (hf0 : ¬ f_X10_in_r t.toInt64 0 4 = 0) (hf1 : f_X10_in_r p.toInt64 9000 11000 = 0) : sw_M l G yX10_setFactor wsX10_setFactor ({ frames := 1, cells := 0, slots := 0, locals := 25 } : Room) [.ref h0, .int t, .int p] [(h0, .inr (10, [.ref b0, .ref b1, .int np, .int th, .long hh])), (b0, .inl (G.2.1.2, 344, .inr (.inl S))), (b1, .inl (G.2.1.2, 1032, .inr (.inl P)))] (sw_QI G (S := Unit) (fun (r : Int32) (_ : Unit) => r = 0) (fun _ => [(h0, .inr (10, [.ref b0, .ref b1, .int np, .int 2, .long hh])), (b0, .inl (G.2.1.2, 344, .inr (.inl S))), (b1, .inl (G.2.1.2, 1032, .inr (.inl P)))])) 0 0 := by
  refine sw_start (cc := cX10_setFactor) (maxL := 3) (ret := some .int) (lv := [(0, .ref h0), (1, .int t), (2, .int p)]) (own := RX10) (nm := "setFactor") (by decide +kernel) rfl rfl rfl rfl (Nat.le_of_ble_eq_true rfl) (fun C F T => ?_)
  refine sw_iload_n (pc := 0) F dX10_setFactor_0 rfl 1 rfl ?_
  refine sw_i2l (pc := 1) F dX10_setFactor_1 rfl ?_
  refine sw_lconst (pc := 2) (v := 0) F dX10_setFactor_2 rfl ?_
  refine sw_ldc2 (pc := 3) (v := 4) F (List.mem_of_getElem? (i := 1) rfl) dX10_setFactor_3 ?_
  refine sw_calli (pc := 6) (wr := [(h0, .inr (10, [.ref b0, .ref b1, .int np, .int th, .long hh])), (b0, .inl (G.2.1.2, 344, .inr (.inl S))), (b1, .inl (G.2.1.2, 1032, .inr (.inl P)))]) (k' := 0) (n' := 0) F (sw_runS (R := ({ frames := 1, cells := 0, slots := 0, locals := 25 } : Room)) (na := 3) F T.2.1 T.2.2.1 (k_X10_in l G t.toInt64 0 4) [] rfl (by decide) gX10_setFactor_X10_in rfl rfl rfl (by decide +kernel) ⟨Nat.le_of_ble_eq_true rfl, Nat.le_of_ble_eq_true rfl⟩ rfl rfl (Nat.le_of_ble_eq_true rfl) dX10_setFactor_6 (Nat.le_of_ble_eq_true rfl) (Nat.le_of_ble_eq_true rfl)) [] [0, 1, 2] rfl rfl (by decide) (by decide) rfl rfl (fun r_1 u_2 h_3 => ?_)
  have e_4 : r_1 = f_X10_in_r t.toInt64 0 4 := h_3
  refine sw_eq (ws' := [(h0, .inr (10, [.ref b0, .ref b1, .int np, .int th, .long hh])), (b0, .inl (G.2.1.2, 344, .inr (.inl S))), (b1, .inl (G.2.1.2, 1032, .inr (.inl P)))]) (lv' := [(0, .ref h0), (1, .int t), (2, .int p)]) (st' := [.int r_1]) rfl rfl rfl ?_
  refine sw_if_ne (pc := 9) (tgt := 18) F dX10_setFactor_9 (by decide) (fun _ => ?_) (fun c => absurd c (by rw [e_4]; exact hf0))
  refine sw_iload_n (pc := 18) F dX10_setFactor_18 rfl 2 rfl ?_
  refine sw_i2l (pc := 19) F dX10_setFactor_19 rfl ?_
  refine sw_ldc2 (pc := 20) (v := 9000) F (List.mem_of_getElem? (i := 2) rfl) dX10_setFactor_20 ?_
  refine sw_ldc2 (pc := 23) (v := 11000) F (List.mem_of_getElem? (i := 3) rfl) dX10_setFactor_23 ?_
  refine sw_calli (pc := 26) (wr := [(h0, .inr (10, [.ref b0, .ref b1, .int np, .int th, .long hh])), (b0, .inl (G.2.1.2, 344, .inr (.inl S))), (b1, .inl (G.2.1.2, 1032, .inr (.inl P)))]) (k' := 0) (n' := 0) F (sw_runS (R := ({ frames := 1, cells := 0, slots := 0, locals := 25 } : Room)) (na := 3) F T.2.1 T.2.2.1 (k_X10_in l G p.toInt64 9000 11000) [] rfl (by decide) gX10_setFactor_X10_in rfl rfl rfl (by decide +kernel) ⟨Nat.le_of_ble_eq_true rfl, Nat.le_of_ble_eq_true rfl⟩ rfl rfl (Nat.le_of_ble_eq_true rfl) dX10_setFactor_26 (Nat.le_of_ble_eq_true rfl) (Nat.le_of_ble_eq_true rfl)) [] [0, 1, 2] rfl rfl (by decide) (by decide) rfl rfl (fun r_5 u_6 h_7 => ?_)
  have e_8 : r_5 = f_X10_in_r p.toInt64 9000 11000 := h_7
  refine sw_eq (ws' := [(h0, .inr (10, [.ref b0, .ref b1, .int np, .int th, .long hh])), (b0, .inl (G.2.1.2, 344, .inr (.inl S))), (b1, .inl (G.2.1.2, 1032, .inr (.inl P)))]) (lv' := [(0, .ref h0), (1, .int t), (2, .int p)]) (st' := [.int r_5]) rfl rfl rfl ?_
  refine sw_if_eq (pc := 29) (tgt := 46) F dX10_setFactor_29 (by decide) (fun _ => ?_) (fun c => absurd (by rw [e_8]; exact hf1) c)
  refine sw_aload_n (pc := 46) F dX10_setFactor_46 rfl 0 rfl ?_
  refine sw_iconst (pc := 47) (v := 2) F dX10_setFactor_47 rfl ?_
  refine sw_calli (pc := 48) (wr := []) (k' := 0) (n' := 0) F (sw_runV (R := ({ frames := 1, cells := 0, slots := 0, locals := 25 } : Room)) (q0 := 0) (na := 1) F T.2.1 T.2.2.1 (k_X10_fails l G h0 b0 b1 np th hh S P 2) [0, 1, 2] rfl (by decide) gX10_setFactor_X10_fails rfl rfl rfl (by decide +kernel) ⟨Nat.le_of_ble_eq_true rfl, Nat.le_of_ble_eq_true rfl⟩ rfl rfl rfl rfl rfl (Nat.le_of_ble_eq_true rfl) dX10_setFactor_48 (Nat.le_of_ble_eq_true rfl) (Nat.le_of_ble_eq_true rfl)) [0, 1, 2] [] rfl rfl (by decide) (by decide) rfl rfl (fun r_9 u_10 h_11 => ?_)
  have e_12 : r_9 = 0 := h_11
  refine sw_eqt (v := .int 0) (by rw [e_12]) ?_
  refine sw_eq (ws' := [(h0, .inr (10, [.ref b0, .ref b1, .int np, .int 2, .long hh])), (b0, .inl (G.2.1.2, 344, .inr (.inl S))), (b1, .inl (G.2.1.2, 1032, .inr (.inl P)))]) (lv' := [(0, .ref h0), (1, .int t), (2, .int p)]) (st' := [.int 0]) rfl rfl rfl ?_
  subst e_8
  subst e_4
  exact sw_iret (pc := 51) F T rfl rfl () rfl rfl dX10_setFactor_51
set_option maxHeartbeats 4000000 in
set_option maxRecDepth 100000 in
theorem k_X10_setMode_f1 (l : Launch) (G : sw_E) (h0 : Nat) (b0 : Nat) (b1 : Nat) (np : Int32) (th : Int32) (hh : Int64) (S : Nat → Int64) (P : Nat → Int64) (p : Int32) (hf0 : f_X10_in_r p.toInt64 0 1 = 0) : sw_M l G yX10_setMode wsX10_setMode ({ frames := 1, cells := 0, slots := 0, locals := 25 } : Room) [.ref h0, .int p] [(h0, .inr (10, [.ref b0, .ref b1, .int np, .int th, .long hh])), (b0, .inl (G.2.1.2, 344, .inr (.inl S))), (b1, .inl (G.2.1.2, 1032, .inr (.inl P)))] (sw_QI G (S := Unit) (fun (r : Int32) (_ : Unit) => r = 0) (fun _ => [(h0, .inr (10, [.ref b0, .ref b1, .int np, .int 1, .long hh])), (b0, .inl (G.2.1.2, 344, .inr (.inl S))), (b1, .inl (G.2.1.2, 1032, .inr (.inl P)))])) 0 0 := by
  refine sw_start (cc := cX10_setMode) (maxL := 2) (ret := some .int) (lv := [(0, .ref h0), (1, .int p)]) (own := RX10) (nm := "setMode") (by decide +kernel) rfl rfl rfl rfl (Nat.le_of_ble_eq_true rfl) (fun C F T => ?_)
  refine sw_iload_n (pc := 0) F dX10_setMode_0 rfl 1 rfl ?_
  refine sw_i2l (pc := 1) F dX10_setMode_1 rfl ?_
  refine sw_lconst (pc := 2) (v := 0) F dX10_setMode_2 rfl ?_
  refine sw_lconst (pc := 3) (v := 1) F dX10_setMode_3 rfl ?_
  refine sw_calli (pc := 4) (wr := [(h0, .inr (10, [.ref b0, .ref b1, .int np, .int th, .long hh])), (b0, .inl (G.2.1.2, 344, .inr (.inl S))), (b1, .inl (G.2.1.2, 1032, .inr (.inl P)))]) (k' := 0) (n' := 0) F (sw_runS (R := ({ frames := 1, cells := 0, slots := 0, locals := 25 } : Room)) (na := 3) F T.2.1 T.2.2.1 (k_X10_in l G p.toInt64 0 1) [] rfl (by decide) gX10_setMode_X10_in rfl rfl rfl (by decide +kernel) ⟨Nat.le_of_ble_eq_true rfl, Nat.le_of_ble_eq_true rfl⟩ rfl rfl (Nat.le_of_ble_eq_true rfl) dX10_setMode_4 (Nat.le_of_ble_eq_true rfl) (Nat.le_of_ble_eq_true rfl)) [] [0, 1, 2] rfl rfl (by decide) (by decide) rfl rfl (fun r_1 u_2 h_3 => ?_)
  have e_4 : r_1 = f_X10_in_r p.toInt64 0 1 := h_3
  refine sw_eq (ws' := [(h0, .inr (10, [.ref b0, .ref b1, .int np, .int th, .long hh])), (b0, .inl (G.2.1.2, 344, .inr (.inl S))), (b1, .inl (G.2.1.2, 1032, .inr (.inl P)))]) (lv' := [(0, .ref h0), (1, .int p)]) (st' := [.int r_1]) rfl rfl rfl ?_
  refine sw_if_eq (pc := 7) (tgt := 21) F dX10_setMode_7 (by decide) (fun _ => ?_) (fun c => absurd (by rw [e_4]; exact hf0) c)
  refine sw_aload_n (pc := 21) F dX10_setMode_21 rfl 0 rfl ?_
  refine sw_iconst (pc := 22) (v := 1) F dX10_setMode_22 rfl ?_
  refine sw_calli (pc := 23) (wr := []) (k' := 0) (n' := 0) F (sw_runV (R := ({ frames := 1, cells := 0, slots := 0, locals := 25 } : Room)) (q0 := 0) (na := 1) F T.2.1 T.2.2.1 (k_X10_fails l G h0 b0 b1 np th hh S P 1) [0, 1, 2] rfl (by decide) gX10_setMode_X10_fails rfl rfl rfl (by decide +kernel) ⟨Nat.le_of_ble_eq_true rfl, Nat.le_of_ble_eq_true rfl⟩ rfl rfl rfl rfl rfl (Nat.le_of_ble_eq_true rfl) dX10_setMode_23 (Nat.le_of_ble_eq_true rfl) (Nat.le_of_ble_eq_true rfl)) [0, 1, 2] [] rfl rfl (by decide) (by decide) rfl rfl (fun r_5 u_6 h_7 => ?_)
  have e_8 : r_5 = 0 := h_7
  refine sw_eqt (v := .int 0) (by rw [e_8]) ?_
  refine sw_eq (ws' := [(h0, .inr (10, [.ref b0, .ref b1, .int np, .int 1, .long hh])), (b0, .inl (G.2.1.2, 344, .inr (.inl S))), (b1, .inl (G.2.1.2, 1032, .inr (.inl P)))]) (lv' := [(0, .ref h0), (1, .int p)]) (st' := [.int 0]) rfl rfl rfl ?_
  subst e_4
  exact sw_iret (pc := 26) F T rfl rfl () rfl rfl dX10_setMode_26
set_option maxHeartbeats 4000000 in
set_option maxRecDepth 100000 in
theorem k_X10_setMeter_f1 (l : Launch) (G : sw_E) (h0 : Nat) (b0 : Nat) (b1 : Nat) (np : Int32) (th : Int32) (hh : Int64) (S : Nat → Int64) (P : Nat → Int64) (p : Int32) (hf0 : f_X10_in_r p.toInt64 1 100000 = 0) : sw_M l G yX10_setMeter wsX10_setMeter ({ frames := 1, cells := 0, slots := 0, locals := 25 } : Room) [.ref h0, .int p] [(h0, .inr (10, [.ref b0, .ref b1, .int np, .int th, .long hh])), (b0, .inl (G.2.1.2, 344, .inr (.inl S))), (b1, .inl (G.2.1.2, 1032, .inr (.inl P)))] (sw_QI G (S := Unit) (fun (r : Int32) (_ : Unit) => r = 0) (fun _ => [(h0, .inr (10, [.ref b0, .ref b1, .int np, .int 1, .long hh])), (b0, .inl (G.2.1.2, 344, .inr (.inl S))), (b1, .inl (G.2.1.2, 1032, .inr (.inl P)))])) 0 0 := by
  refine sw_start (cc := cX10_setMeter) (maxL := 2) (ret := some .int) (lv := [(0, .ref h0), (1, .int p)]) (own := RX10) (nm := "setMeter") (by decide +kernel) rfl rfl rfl rfl (Nat.le_of_ble_eq_true rfl) (fun C F T => ?_)
  refine sw_iload_n (pc := 0) F dX10_setMeter_0 rfl 1 rfl ?_
  refine sw_i2l (pc := 1) F dX10_setMeter_1 rfl ?_
  refine sw_lconst (pc := 2) (v := 1) F dX10_setMeter_2 rfl ?_
  refine sw_ldc2 (pc := 3) (v := 100000) F (List.mem_of_getElem? (i := 1) rfl) dX10_setMeter_3 ?_
  refine sw_calli (pc := 6) (wr := [(h0, .inr (10, [.ref b0, .ref b1, .int np, .int th, .long hh])), (b0, .inl (G.2.1.2, 344, .inr (.inl S))), (b1, .inl (G.2.1.2, 1032, .inr (.inl P)))]) (k' := 0) (n' := 0) F (sw_runS (R := ({ frames := 1, cells := 0, slots := 0, locals := 25 } : Room)) (na := 3) F T.2.1 T.2.2.1 (k_X10_in l G p.toInt64 1 100000) [] rfl (by decide) gX10_setMeter_X10_in rfl rfl rfl (by decide +kernel) ⟨Nat.le_of_ble_eq_true rfl, Nat.le_of_ble_eq_true rfl⟩ rfl rfl (Nat.le_of_ble_eq_true rfl) dX10_setMeter_6 (Nat.le_of_ble_eq_true rfl) (Nat.le_of_ble_eq_true rfl)) [] [0, 1, 2] rfl rfl (by decide) (by decide) rfl rfl (fun r_1 u_2 h_3 => ?_)
  have e_4 : r_1 = f_X10_in_r p.toInt64 1 100000 := h_3
  refine sw_eq (ws' := [(h0, .inr (10, [.ref b0, .ref b1, .int np, .int th, .long hh])), (b0, .inl (G.2.1.2, 344, .inr (.inl S))), (b1, .inl (G.2.1.2, 1032, .inr (.inl P)))]) (lv' := [(0, .ref h0), (1, .int p)]) (st' := [.int r_1]) rfl rfl rfl ?_
  refine sw_if_eq (pc := 9) (tgt := 23) F dX10_setMeter_9 (by decide) (fun _ => ?_) (fun c => absurd (by rw [e_4]; exact hf0) c)
  refine sw_aload_n (pc := 23) F dX10_setMeter_23 rfl 0 rfl ?_
  refine sw_iconst (pc := 24) (v := 1) F dX10_setMeter_24 rfl ?_
  refine sw_calli (pc := 25) (wr := []) (k' := 0) (n' := 0) F (sw_runV (R := ({ frames := 1, cells := 0, slots := 0, locals := 25 } : Room)) (q0 := 0) (na := 1) F T.2.1 T.2.2.1 (k_X10_fails l G h0 b0 b1 np th hh S P 1) [0, 1, 2] rfl (by decide) gX10_setMeter_X10_fails rfl rfl rfl (by decide +kernel) ⟨Nat.le_of_ble_eq_true rfl, Nat.le_of_ble_eq_true rfl⟩ rfl rfl rfl rfl rfl (Nat.le_of_ble_eq_true rfl) dX10_setMeter_25 (Nat.le_of_ble_eq_true rfl) (Nat.le_of_ble_eq_true rfl)) [0, 1, 2] [] rfl rfl (by decide) (by decide) rfl rfl (fun r_5 u_6 h_7 => ?_)
  have e_8 : r_5 = 0 := h_7
  refine sw_eqt (v := .int 0) (by rw [e_8]) ?_
  refine sw_eq (ws' := [(h0, .inr (10, [.ref b0, .ref b1, .int np, .int 1, .long hh])), (b0, .inl (G.2.1.2, 344, .inr (.inl S))), (b1, .inl (G.2.1.2, 1032, .inr (.inl P)))]) (lv' := [(0, .ref h0), (1, .int p)]) (st' := [.int 0]) rfl rfl rfl ?_
  subst e_4
  exact sw_iret (pc := 28) F T rfl rfl () rfl rfl dX10_setMeter_28
set_option maxHeartbeats 4000000 in
set_option maxRecDepth 100000 in
theorem k_X10_setContractHour_f1 (l : Launch) (G : sw_E) (h0 : Nat) (b0 : Nat) (b1 : Nat) (np : Int32) (th : Int32) (hh : Int64) (S : Nat → Int64) (P : Nat → Int64) (p : Int32) (hf0 : f_X10_in_r p.toInt64 0 23 = 0) : sw_M l G yX10_setContractHour wsX10_setContractHour ({ frames := 1, cells := 0, slots := 0, locals := 25 } : Room) [.ref h0, .int p] [(h0, .inr (10, [.ref b0, .ref b1, .int np, .int th, .long hh])), (b0, .inl (G.2.1.2, 344, .inr (.inl S))), (b1, .inl (G.2.1.2, 1032, .inr (.inl P)))] (sw_QI G (S := Unit) (fun (r : Int32) (_ : Unit) => r = 0) (fun _ => [(h0, .inr (10, [.ref b0, .ref b1, .int np, .int 1, .long hh])), (b0, .inl (G.2.1.2, 344, .inr (.inl S))), (b1, .inl (G.2.1.2, 1032, .inr (.inl P)))])) 0 0 := by
  refine sw_start (cc := cX10_setContractHour) (maxL := 2) (ret := some .int) (lv := [(0, .ref h0), (1, .int p)]) (own := RX10) (nm := "setContractHour") (by decide +kernel) rfl rfl rfl rfl (Nat.le_of_ble_eq_true rfl) (fun C F T => ?_)
  refine sw_iload_n (pc := 0) F dX10_setContractHour_0 rfl 1 rfl ?_
  refine sw_i2l (pc := 1) F dX10_setContractHour_1 rfl ?_
  refine sw_lconst (pc := 2) (v := 0) F dX10_setContractHour_2 rfl ?_
  refine sw_ldc2 (pc := 3) (v := 23) F (List.mem_of_getElem? (i := 1) rfl) dX10_setContractHour_3 ?_
  refine sw_calli (pc := 6) (wr := [(h0, .inr (10, [.ref b0, .ref b1, .int np, .int th, .long hh])), (b0, .inl (G.2.1.2, 344, .inr (.inl S))), (b1, .inl (G.2.1.2, 1032, .inr (.inl P)))]) (k' := 0) (n' := 0) F (sw_runS (R := ({ frames := 1, cells := 0, slots := 0, locals := 25 } : Room)) (na := 3) F T.2.1 T.2.2.1 (k_X10_in l G p.toInt64 0 23) [] rfl (by decide) gX10_setContractHour_X10_in rfl rfl rfl (by decide +kernel) ⟨Nat.le_of_ble_eq_true rfl, Nat.le_of_ble_eq_true rfl⟩ rfl rfl (Nat.le_of_ble_eq_true rfl) dX10_setContractHour_6 (Nat.le_of_ble_eq_true rfl) (Nat.le_of_ble_eq_true rfl)) [] [0, 1, 2] rfl rfl (by decide) (by decide) rfl rfl (fun r_1 u_2 h_3 => ?_)
  have e_4 : r_1 = f_X10_in_r p.toInt64 0 23 := h_3
  refine sw_eq (ws' := [(h0, .inr (10, [.ref b0, .ref b1, .int np, .int th, .long hh])), (b0, .inl (G.2.1.2, 344, .inr (.inl S))), (b1, .inl (G.2.1.2, 1032, .inr (.inl P)))]) (lv' := [(0, .ref h0), (1, .int p)]) (st' := [.int r_1]) rfl rfl rfl ?_
  refine sw_if_eq (pc := 9) (tgt := 24) F dX10_setContractHour_9 (by decide) (fun _ => ?_) (fun c => absurd (by rw [e_4]; exact hf0) c)
  refine sw_aload_n (pc := 24) F dX10_setContractHour_24 rfl 0 rfl ?_
  refine sw_iconst (pc := 25) (v := 1) F dX10_setContractHour_25 rfl ?_
  refine sw_calli (pc := 26) (wr := []) (k' := 0) (n' := 0) F (sw_runV (R := ({ frames := 1, cells := 0, slots := 0, locals := 25 } : Room)) (q0 := 0) (na := 1) F T.2.1 T.2.2.1 (k_X10_fails l G h0 b0 b1 np th hh S P 1) [0, 1, 2] rfl (by decide) gX10_setContractHour_X10_fails rfl rfl rfl (by decide +kernel) ⟨Nat.le_of_ble_eq_true rfl, Nat.le_of_ble_eq_true rfl⟩ rfl rfl rfl rfl rfl (Nat.le_of_ble_eq_true rfl) dX10_setContractHour_26 (Nat.le_of_ble_eq_true rfl) (Nat.le_of_ble_eq_true rfl)) [0, 1, 2] [] rfl rfl (by decide) (by decide) rfl rfl (fun r_5 u_6 h_7 => ?_)
  have e_8 : r_5 = 0 := h_7
  refine sw_eqt (v := .int 0) (by rw [e_8]) ?_
  refine sw_eq (ws' := [(h0, .inr (10, [.ref b0, .ref b1, .int np, .int 1, .long hh])), (b0, .inl (G.2.1.2, 344, .inr (.inl S))), (b1, .inl (G.2.1.2, 1032, .inr (.inl P)))]) (lv' := [(0, .ref h0), (1, .int p)]) (st' := [.int 0]) rfl rfl rfl ?_
  subst e_4
  exact sw_iret (pc := 29) F T rfl rfl () rfl rfl dX10_setContractHour_29
set_option maxHeartbeats 4000000 in
set_option maxRecDepth 100000 in
theorem k_X10_run_f1 (l : Launch) (G : sw_E) (h0 : Nat) (b0 : Nat) (b1 : Nat) (np : Int32) (th : Int32) (hh : Int64) (S : Nat → Int64) (P : Nat → Int64) (p : Int32) (hf0 : f_X10_in_r p.toInt64 1 20000 = 0) : sw_M l G yX10_run wsX10_run ({ frames := 1, cells := 0, slots := 0, locals := 25 } : Room) [.ref h0, .int p] [(h0, .inr (10, [.ref b0, .ref b1, .int np, .int th, .long hh])), (b0, .inl (G.2.1.2, 344, .inr (.inl S))), (b1, .inl (G.2.1.2, 1032, .inr (.inl P)))] (sw_QL G (S := Unit) (fun (r : Int64) (_ : Unit) => r = 0) (fun _ => [(h0, .inr (10, [.ref b0, .ref b1, .int np, .int 1, .long hh])), (b0, .inl (G.2.1.2, 344, .inr (.inl S))), (b1, .inl (G.2.1.2, 1032, .inr (.inl P)))])) 0 0 := by
  refine sw_start (cc := cX10_run) (maxL := 5) (ret := some .long) (lv := [(0, .ref h0), (1, .int p)]) (own := RX10) (nm := "run") (by decide +kernel) rfl rfl rfl rfl (Nat.le_of_ble_eq_true rfl) (fun C F T => ?_)
  refine sw_iload_n (pc := 0) F dX10_run_0 rfl 1 rfl ?_
  refine sw_i2l (pc := 1) F dX10_run_1 rfl ?_
  refine sw_lconst (pc := 2) (v := 1) F dX10_run_2 rfl ?_
  refine sw_ldc2 (pc := 3) (v := 20000) F (List.mem_of_getElem? (i := 1) rfl) dX10_run_3 ?_
  refine sw_calli (pc := 6) (wr := [(h0, .inr (10, [.ref b0, .ref b1, .int np, .int th, .long hh])), (b0, .inl (G.2.1.2, 344, .inr (.inl S))), (b1, .inl (G.2.1.2, 1032, .inr (.inl P)))]) (k' := 0) (n' := 0) F (sw_runS (R := ({ frames := 1, cells := 0, slots := 0, locals := 25 } : Room)) (na := 3) F T.2.1 T.2.2.1 (k_X10_in l G p.toInt64 1 20000) [] rfl (by decide) gX10_run_X10_in rfl rfl rfl (by decide +kernel) ⟨Nat.le_of_ble_eq_true rfl, Nat.le_of_ble_eq_true rfl⟩ rfl rfl (Nat.le_of_ble_eq_true rfl) dX10_run_6 (Nat.le_of_ble_eq_true rfl) (Nat.le_of_ble_eq_true rfl)) [] [0, 1, 2] rfl rfl (by decide) (by decide) rfl rfl (fun r_1 u_2 h_3 => ?_)
  have e_4 : r_1 = f_X10_in_r p.toInt64 1 20000 := h_3
  refine sw_eq (ws' := [(h0, .inr (10, [.ref b0, .ref b1, .int np, .int th, .long hh])), (b0, .inl (G.2.1.2, 344, .inr (.inl S))), (b1, .inl (G.2.1.2, 1032, .inr (.inl P)))]) (lv' := [(0, .ref h0), (1, .int p)]) (st' := [.int r_1]) rfl rfl rfl ?_
  refine sw_if_ne (pc := 9) (tgt := 19) F dX10_run_9 (by decide) (fun c => absurd (by rw [e_4]; exact hf0) c) (fun _ => ?_)
  refine sw_aload_n (pc := 12) F dX10_run_12 rfl 0 rfl ?_
  refine sw_iconst (pc := 13) (v := 1) F dX10_run_13 rfl ?_
  refine sw_calli (pc := 14) (wr := []) (k' := 0) (n' := 0) F (sw_runV (R := ({ frames := 1, cells := 0, slots := 0, locals := 25 } : Room)) (q0 := 0) (na := 1) F T.2.1 T.2.2.1 (k_X10_fails l G h0 b0 b1 np th hh S P 1) [0, 1, 2] rfl (by decide) gX10_run_X10_fails rfl rfl rfl (by decide +kernel) ⟨Nat.le_of_ble_eq_true rfl, Nat.le_of_ble_eq_true rfl⟩ rfl rfl rfl rfl rfl (Nat.le_of_ble_eq_true rfl) dX10_run_14 (Nat.le_of_ble_eq_true rfl) (Nat.le_of_ble_eq_true rfl)) [0, 1, 2] [] rfl rfl (by decide) (by decide) rfl rfl (fun r_5 u_6 h_7 => ?_)
  have e_8 : r_5 = 0 := h_7
  refine sw_eqt (v := .int 0) (by rw [e_8]) ?_
  refine sw_eq (ws' := [(h0, .inr (10, [.ref b0, .ref b1, .int np, .int 1, .long hh])), (b0, .inl (G.2.1.2, 344, .inr (.inl S))), (b1, .inl (G.2.1.2, 1032, .inr (.inl P)))]) (lv' := [(0, .ref h0), (1, .int p)]) (st' := [.int 0]) rfl rfl rfl ?_
  refine sw_i2l (pc := 17) (v := 0) F dX10_run_17 rfl ?_
  subst e_4
  exact sw_lret (pc := 18) F T () rfl rfl dX10_run_18
set_option maxHeartbeats 4000000 in
set_option maxRecDepth 100000 in
theorem k_X10_total_f1 (l : Launch) (G : sw_E) (h0 : Nat) (b0 : Nat) (b1 : Nat) (np : Int32) (th : Int32) (hh : Int64) (S : Nat → Int64) (P : Nat → Int64) (p : Int32) (hf0 : f_X10_in_r p.toInt64 0 3 = 0) : sw_M l G yX10_total wsX10_total ({ frames := 1, cells := 0, slots := 0, locals := 25 } : Room) [.ref h0, .int p] [(h0, .inr (10, [.ref b0, .ref b1, .int np, .int th, .long hh])), (b0, .inl (G.2.1.2, 344, .inr (.inl S))), (b1, .inl (G.2.1.2, 1032, .inr (.inl P)))] (sw_QL G (S := Unit) (fun (r : Int64) (_ : Unit) => r = 0) (fun _ => [(h0, .inr (10, [.ref b0, .ref b1, .int np, .int 1, .long hh])), (b0, .inl (G.2.1.2, 344, .inr (.inl S))), (b1, .inl (G.2.1.2, 1032, .inr (.inl P)))])) 0 0 := by
  refine sw_start (cc := cX10_total) (maxL := 2) (ret := some .long) (lv := [(0, .ref h0), (1, .int p)]) (own := RX10) (nm := "total") (by decide +kernel) rfl rfl rfl rfl (Nat.le_of_ble_eq_true rfl) (fun C F T => ?_)
  refine sw_iload_n (pc := 0) F dX10_total_0 rfl 1 rfl ?_
  refine sw_i2l (pc := 1) F dX10_total_1 rfl ?_
  refine sw_lconst (pc := 2) (v := 0) F dX10_total_2 rfl ?_
  refine sw_ldc2 (pc := 3) (v := 3) F (List.mem_of_getElem? (i := 1) rfl) dX10_total_3 ?_
  refine sw_calli (pc := 6) (wr := [(h0, .inr (10, [.ref b0, .ref b1, .int np, .int th, .long hh])), (b0, .inl (G.2.1.2, 344, .inr (.inl S))), (b1, .inl (G.2.1.2, 1032, .inr (.inl P)))]) (k' := 0) (n' := 0) F (sw_runS (R := ({ frames := 1, cells := 0, slots := 0, locals := 25 } : Room)) (na := 3) F T.2.1 T.2.2.1 (k_X10_in l G p.toInt64 0 3) [] rfl (by decide) gX10_total_X10_in rfl rfl rfl (by decide +kernel) ⟨Nat.le_of_ble_eq_true rfl, Nat.le_of_ble_eq_true rfl⟩ rfl rfl (Nat.le_of_ble_eq_true rfl) dX10_total_6 (Nat.le_of_ble_eq_true rfl) (Nat.le_of_ble_eq_true rfl)) [] [0, 1, 2] rfl rfl (by decide) (by decide) rfl rfl (fun r_1 u_2 h_3 => ?_)
  have e_4 : r_1 = f_X10_in_r p.toInt64 0 3 := h_3
  refine sw_eq (ws' := [(h0, .inr (10, [.ref b0, .ref b1, .int np, .int th, .long hh])), (b0, .inl (G.2.1.2, 344, .inr (.inl S))), (b1, .inl (G.2.1.2, 1032, .inr (.inl P)))]) (lv' := [(0, .ref h0), (1, .int p)]) (st' := [.int r_1]) rfl rfl rfl ?_
  refine sw_if_ne (pc := 9) (tgt := 19) F dX10_total_9 (by decide) (fun c => absurd (by rw [e_4]; exact hf0) c) (fun _ => ?_)
  refine sw_aload_n (pc := 12) F dX10_total_12 rfl 0 rfl ?_
  refine sw_iconst (pc := 13) (v := 1) F dX10_total_13 rfl ?_
  refine sw_calli (pc := 14) (wr := []) (k' := 0) (n' := 0) F (sw_runV (R := ({ frames := 1, cells := 0, slots := 0, locals := 25 } : Room)) (q0 := 0) (na := 1) F T.2.1 T.2.2.1 (k_X10_fails l G h0 b0 b1 np th hh S P 1) [0, 1, 2] rfl (by decide) gX10_total_X10_fails rfl rfl rfl (by decide +kernel) ⟨Nat.le_of_ble_eq_true rfl, Nat.le_of_ble_eq_true rfl⟩ rfl rfl rfl rfl rfl (Nat.le_of_ble_eq_true rfl) dX10_total_14 (Nat.le_of_ble_eq_true rfl) (Nat.le_of_ble_eq_true rfl)) [0, 1, 2] [] rfl rfl (by decide) (by decide) rfl rfl (fun r_5 u_6 h_7 => ?_)
  have e_8 : r_5 = 0 := h_7
  refine sw_eqt (v := .int 0) (by rw [e_8]) ?_
  refine sw_eq (ws' := [(h0, .inr (10, [.ref b0, .ref b1, .int np, .int 1, .long hh])), (b0, .inl (G.2.1.2, 344, .inr (.inl S))), (b1, .inl (G.2.1.2, 1032, .inr (.inl P)))]) (lv' := [(0, .ref h0), (1, .int p)]) (st' := [.int 0]) rfl rfl rfl ?_
  refine sw_i2l (pc := 17) (v := 0) F dX10_total_17 rfl ?_
  subst e_4
  exact sw_lret (pc := 18) F T () rfl rfl dX10_total_18
set_option maxHeartbeats 4000000 in
set_option maxRecDepth 100000 in
theorem k_X10_setCutoff_f1 (l : Launch) (G : sw_E) (h0 : Nat) (b0 : Nat) (b1 : Nat) (np : Int32) (th : Int32) (hh : Int64) (S : Nat → Int64) (P : Nat → Int64) (p : Int32) (q : Int32) (hf0 : f_X10_in_r p.toInt64 0 q.toInt64 = 0) : sw_M l G yX10_setCutoff wsX10_setCutoff ({ frames := 1, cells := 0, slots := 0, locals := 25 } : Room) [.ref h0, .int p, .int q] [(h0, .inr (10, [.ref b0, .ref b1, .int np, .int th, .long hh])), (b0, .inl (G.2.1.2, 344, .inr (.inl S))), (b1, .inl (G.2.1.2, 1032, .inr (.inl P)))] (sw_QI G (S := Unit) (fun (r : Int32) (_ : Unit) => r = 0) (fun _ => [(h0, .inr (10, [.ref b0, .ref b1, .int np, .int 1, .long hh])), (b0, .inl (G.2.1.2, 344, .inr (.inl S))), (b1, .inl (G.2.1.2, 1032, .inr (.inl P)))])) 0 0 := by
  refine sw_start (cc := cX10_setCutoff) (maxL := 4) (ret := some .int) (lv := [(0, .ref h0), (1, .int p), (2, .int q)]) (own := RX10) (nm := "setCutoff") (by decide +kernel) rfl rfl rfl rfl (Nat.le_of_ble_eq_true rfl) (fun C F T => ?_)
  refine sw_iload_n (pc := 0) F dX10_setCutoff_0 rfl 1 rfl ?_
  refine sw_i2l (pc := 1) F dX10_setCutoff_1 rfl ?_
  refine sw_lconst (pc := 2) (v := 0) F dX10_setCutoff_2 rfl ?_
  refine sw_iload_n (pc := 3) F dX10_setCutoff_3 rfl 2 rfl ?_
  refine sw_i2l (pc := 4) F dX10_setCutoff_4 rfl ?_
  refine sw_calli (pc := 5) (wr := [(h0, .inr (10, [.ref b0, .ref b1, .int np, .int th, .long hh])), (b0, .inl (G.2.1.2, 344, .inr (.inl S))), (b1, .inl (G.2.1.2, 1032, .inr (.inl P)))]) (k' := 0) (n' := 0) F (sw_runS (R := ({ frames := 1, cells := 0, slots := 0, locals := 25 } : Room)) (na := 3) F T.2.1 T.2.2.1 (k_X10_in l G p.toInt64 0 q.toInt64) [] rfl (by decide) gX10_setCutoff_X10_in rfl rfl rfl (by decide +kernel) ⟨Nat.le_of_ble_eq_true rfl, Nat.le_of_ble_eq_true rfl⟩ rfl rfl (Nat.le_of_ble_eq_true rfl) dX10_setCutoff_5 (Nat.le_of_ble_eq_true rfl) (Nat.le_of_ble_eq_true rfl)) [] [0, 1, 2] rfl rfl (by decide) (by decide) rfl rfl (fun r_1 u_2 h_3 => ?_)
  have e_4 : r_1 = f_X10_in_r p.toInt64 0 q.toInt64 := h_3
  refine sw_eq (ws' := [(h0, .inr (10, [.ref b0, .ref b1, .int np, .int th, .long hh])), (b0, .inl (G.2.1.2, 344, .inr (.inl S))), (b1, .inl (G.2.1.2, 1032, .inr (.inl P)))]) (lv' := [(0, .ref h0), (1, .int p), (2, .int q)]) (st' := [.int r_1]) rfl rfl rfl ?_
  refine sw_if_eq (pc := 8) (tgt := 24) F dX10_setCutoff_8 (by decide) (fun _ => ?_) (fun c => absurd (by rw [e_4]; exact hf0) c)
  refine sw_aload_n (pc := 24) F dX10_setCutoff_24 rfl 0 rfl ?_
  refine sw_iconst (pc := 25) (v := 1) F dX10_setCutoff_25 rfl ?_
  refine sw_calli (pc := 26) (wr := []) (k' := 0) (n' := 0) F (sw_runV (R := ({ frames := 1, cells := 0, slots := 0, locals := 25 } : Room)) (q0 := 0) (na := 1) F T.2.1 T.2.2.1 (k_X10_fails l G h0 b0 b1 np th hh S P 1) [0, 1, 2] rfl (by decide) gX10_setCutoff_X10_fails rfl rfl rfl (by decide +kernel) ⟨Nat.le_of_ble_eq_true rfl, Nat.le_of_ble_eq_true rfl⟩ rfl rfl rfl rfl rfl (Nat.le_of_ble_eq_true rfl) dX10_setCutoff_26 (Nat.le_of_ble_eq_true rfl) (Nat.le_of_ble_eq_true rfl)) [0, 1, 2] [] rfl rfl (by decide) (by decide) rfl rfl (fun r_5 u_6 h_7 => ?_)
  have e_8 : r_5 = 0 := h_7
  refine sw_eqt (v := .int 0) (by rw [e_8]) ?_
  refine sw_eq (ws' := [(h0, .inr (10, [.ref b0, .ref b1, .int np, .int 1, .long hh])), (b0, .inl (G.2.1.2, 344, .inr (.inl S))), (b1, .inl (G.2.1.2, 1032, .inr (.inl P)))]) (lv' := [(0, .ref h0), (1, .int p), (2, .int q)]) (st' := [.int 0]) rfl rfl rfl ?_
  subst e_4
  exact sw_iret (pc := 29) F T rfl rfl () rfl rfl dX10_setCutoff_29
set_option maxHeartbeats 4000000 in
set_option maxRecDepth 100000 in
theorem k_X10_setCutoff_f1b (l : Launch) (G : sw_E) (h0 : Nat) (b0 : Nat) (b1 : Nat) (np : Int32) (th : Int32) (hh : Int64) (S : Nat → Int64) (P : Nat → Int64) (p : Int32) (q : Int32) (hf0 : ¬ f_X10_in_r p.toInt64 0 q.toInt64 = 0) (hf1 : f_X10_in_r q.toInt64 p.toInt64 100000 = 0) : sw_M l G yX10_setCutoff wsX10_setCutoff ({ frames := 1, cells := 0, slots := 0, locals := 25 } : Room) [.ref h0, .int p, .int q] [(h0, .inr (10, [.ref b0, .ref b1, .int np, .int th, .long hh])), (b0, .inl (G.2.1.2, 344, .inr (.inl S))), (b1, .inl (G.2.1.2, 1032, .inr (.inl P)))] (sw_QI G (S := Unit) (fun (r : Int32) (_ : Unit) => r = 0) (fun _ => [(h0, .inr (10, [.ref b0, .ref b1, .int np, .int 1, .long hh])), (b0, .inl (G.2.1.2, 344, .inr (.inl S))), (b1, .inl (G.2.1.2, 1032, .inr (.inl P)))])) 0 0 := by
  refine sw_start (cc := cX10_setCutoff) (maxL := 4) (ret := some .int) (lv := [(0, .ref h0), (1, .int p), (2, .int q)]) (own := RX10) (nm := "setCutoff") (by decide +kernel) rfl rfl rfl rfl (Nat.le_of_ble_eq_true rfl) (fun C F T => ?_)
  refine sw_iload_n (pc := 0) F dX10_setCutoff_0 rfl 1 rfl ?_
  refine sw_i2l (pc := 1) F dX10_setCutoff_1 rfl ?_
  refine sw_lconst (pc := 2) (v := 0) F dX10_setCutoff_2 rfl ?_
  refine sw_iload_n (pc := 3) F dX10_setCutoff_3 rfl 2 rfl ?_
  refine sw_i2l (pc := 4) F dX10_setCutoff_4 rfl ?_
  refine sw_calli (pc := 5) (wr := [(h0, .inr (10, [.ref b0, .ref b1, .int np, .int th, .long hh])), (b0, .inl (G.2.1.2, 344, .inr (.inl S))), (b1, .inl (G.2.1.2, 1032, .inr (.inl P)))]) (k' := 0) (n' := 0) F (sw_runS (R := ({ frames := 1, cells := 0, slots := 0, locals := 25 } : Room)) (na := 3) F T.2.1 T.2.2.1 (k_X10_in l G p.toInt64 0 q.toInt64) [] rfl (by decide) gX10_setCutoff_X10_in rfl rfl rfl (by decide +kernel) ⟨Nat.le_of_ble_eq_true rfl, Nat.le_of_ble_eq_true rfl⟩ rfl rfl (Nat.le_of_ble_eq_true rfl) dX10_setCutoff_5 (Nat.le_of_ble_eq_true rfl) (Nat.le_of_ble_eq_true rfl)) [] [0, 1, 2] rfl rfl (by decide) (by decide) rfl rfl (fun r_1 u_2 h_3 => ?_)
  have e_4 : r_1 = f_X10_in_r p.toInt64 0 q.toInt64 := h_3
  refine sw_eq (ws' := [(h0, .inr (10, [.ref b0, .ref b1, .int np, .int th, .long hh])), (b0, .inl (G.2.1.2, 344, .inr (.inl S))), (b1, .inl (G.2.1.2, 1032, .inr (.inl P)))]) (lv' := [(0, .ref h0), (1, .int p), (2, .int q)]) (st' := [.int r_1]) rfl rfl rfl ?_
  refine sw_if_eq (pc := 8) (tgt := 24) F dX10_setCutoff_8 (by decide) (fun c => absurd c (by rw [e_4]; exact hf0)) (fun _ => ?_)
  refine sw_iload_n (pc := 11) F dX10_setCutoff_11 rfl 2 rfl ?_
  refine sw_i2l (pc := 12) F dX10_setCutoff_12 rfl ?_
  refine sw_iload_n (pc := 13) F dX10_setCutoff_13 rfl 1 rfl ?_
  refine sw_i2l (pc := 14) F dX10_setCutoff_14 rfl ?_
  refine sw_ldc2 (pc := 15) (v := 100000) F (List.mem_of_getElem? (i := 1) rfl) dX10_setCutoff_15 ?_
  refine sw_calli (pc := 18) (wr := [(h0, .inr (10, [.ref b0, .ref b1, .int np, .int th, .long hh])), (b0, .inl (G.2.1.2, 344, .inr (.inl S))), (b1, .inl (G.2.1.2, 1032, .inr (.inl P)))]) (k' := 0) (n' := 0) F (sw_runS (R := ({ frames := 1, cells := 0, slots := 0, locals := 25 } : Room)) (na := 3) F T.2.1 T.2.2.1 (k_X10_in l G q.toInt64 p.toInt64 100000) [] rfl (by decide) gX10_setCutoff_X10_in rfl rfl rfl (by decide +kernel) ⟨Nat.le_of_ble_eq_true rfl, Nat.le_of_ble_eq_true rfl⟩ rfl rfl (Nat.le_of_ble_eq_true rfl) dX10_setCutoff_18 (Nat.le_of_ble_eq_true rfl) (Nat.le_of_ble_eq_true rfl)) [] [0, 1, 2] rfl rfl (by decide) (by decide) rfl rfl (fun r_5 u_6 h_7 => ?_)
  have e_8 : r_5 = f_X10_in_r q.toInt64 p.toInt64 100000 := h_7
  refine sw_eq (ws' := [(h0, .inr (10, [.ref b0, .ref b1, .int np, .int th, .long hh])), (b0, .inl (G.2.1.2, 344, .inr (.inl S))), (b1, .inl (G.2.1.2, 1032, .inr (.inl P)))]) (lv' := [(0, .ref h0), (1, .int p), (2, .int q)]) (st' := [.int r_5]) rfl rfl rfl ?_
  refine sw_if_ne (pc := 21) (tgt := 30) F dX10_setCutoff_21 (by decide) (fun c => absurd (by rw [e_8]; exact hf1) c) (fun _ => ?_)
  refine sw_aload_n (pc := 24) F dX10_setCutoff_24 rfl 0 rfl ?_
  refine sw_iconst (pc := 25) (v := 1) F dX10_setCutoff_25 rfl ?_
  refine sw_calli (pc := 26) (wr := []) (k' := 0) (n' := 0) F (sw_runV (R := ({ frames := 1, cells := 0, slots := 0, locals := 25 } : Room)) (q0 := 0) (na := 1) F T.2.1 T.2.2.1 (k_X10_fails l G h0 b0 b1 np th hh S P 1) [0, 1, 2] rfl (by decide) gX10_setCutoff_X10_fails rfl rfl rfl (by decide +kernel) ⟨Nat.le_of_ble_eq_true rfl, Nat.le_of_ble_eq_true rfl⟩ rfl rfl rfl rfl rfl (Nat.le_of_ble_eq_true rfl) dX10_setCutoff_26 (Nat.le_of_ble_eq_true rfl) (Nat.le_of_ble_eq_true rfl)) [0, 1, 2] [] rfl rfl (by decide) (by decide) rfl rfl (fun r_9 u_10 h_11 => ?_)
  have e_12 : r_9 = 0 := h_11
  refine sw_eqt (v := .int 0) (by rw [e_12]) ?_
  refine sw_eq (ws' := [(h0, .inr (10, [.ref b0, .ref b1, .int np, .int 1, .long hh])), (b0, .inl (G.2.1.2, 344, .inr (.inl S))), (b1, .inl (G.2.1.2, 1032, .inr (.inl P)))]) (lv' := [(0, .ref h0), (1, .int p), (2, .int q)]) (st' := [.int 0]) rfl rfl rfl ?_
  subst e_8
  subst e_4
  exact sw_iret (pc := 29) F T rfl rfl () rfl rfl dX10_setCutoff_29
set_option maxHeartbeats 4000000 in
set_option maxRecDepth 100000 in
theorem k_X10_openBatch_f1 (l : Launch) (G : sw_E) (h0 : Nat) (b0 : Nat) (b1 : Nat) (np : Int32) (th : Int32) (hh : Int64) (S : Nat → Int64) (P : Nat → Int64) (p : Int32) (q : Int32) (hf0 : f_X10_in_r p.toInt64 1 1000000000 = 0) : sw_M l G yX10_openBatch wsX10_openBatch ({ frames := 1, cells := 0, slots := 0, locals := 25 } : Room) [.ref h0, .int p, .int q] [(h0, .inr (10, [.ref b0, .ref b1, .int np, .int th, .long hh])), (b0, .inl (G.2.1.2, 344, .inr (.inl S))), (b1, .inl (G.2.1.2, 1032, .inr (.inl P)))] (sw_QI G (S := Unit) (fun (r : Int32) (_ : Unit) => r = 0) (fun _ => [(h0, .inr (10, [.ref b0, .ref b1, .int np, .int 1, .long hh])), (b0, .inl (G.2.1.2, 344, .inr (.inl S))), (b1, .inl (G.2.1.2, 1032, .inr (.inl P)))])) 0 0 := by
  refine sw_start (cc := cX10_openBatch) (maxL := 3) (ret := some .int) (lv := [(0, .ref h0), (1, .int p), (2, .int q)]) (own := RX10) (nm := "openBatch") (by decide +kernel) rfl rfl rfl rfl (Nat.le_of_ble_eq_true rfl) (fun C F T => ?_)
  refine sw_iload_n (pc := 0) F dX10_openBatch_0 rfl 1 rfl ?_
  refine sw_i2l (pc := 1) F dX10_openBatch_1 rfl ?_
  refine sw_lconst (pc := 2) (v := 1) F dX10_openBatch_2 rfl ?_
  refine sw_ldc2 (pc := 3) (v := 1000000000) F (List.mem_of_getElem? (i := 1) rfl) dX10_openBatch_3 ?_
  refine sw_calli (pc := 6) (wr := [(h0, .inr (10, [.ref b0, .ref b1, .int np, .int th, .long hh])), (b0, .inl (G.2.1.2, 344, .inr (.inl S))), (b1, .inl (G.2.1.2, 1032, .inr (.inl P)))]) (k' := 0) (n' := 0) F (sw_runS (R := ({ frames := 1, cells := 0, slots := 0, locals := 25 } : Room)) (na := 3) F T.2.1 T.2.2.1 (k_X10_in l G p.toInt64 1 1000000000) [] rfl (by decide) gX10_openBatch_X10_in rfl rfl rfl (by decide +kernel) ⟨Nat.le_of_ble_eq_true rfl, Nat.le_of_ble_eq_true rfl⟩ rfl rfl (Nat.le_of_ble_eq_true rfl) dX10_openBatch_6 (Nat.le_of_ble_eq_true rfl) (Nat.le_of_ble_eq_true rfl)) [] [0, 1, 2] rfl rfl (by decide) (by decide) rfl rfl (fun r_1 u_2 h_3 => ?_)
  have e_4 : r_1 = f_X10_in_r p.toInt64 1 1000000000 := h_3
  refine sw_eq (ws' := [(h0, .inr (10, [.ref b0, .ref b1, .int np, .int th, .long hh])), (b0, .inl (G.2.1.2, 344, .inr (.inl S))), (b1, .inl (G.2.1.2, 1032, .inr (.inl P)))]) (lv' := [(0, .ref h0), (1, .int p), (2, .int q)]) (st' := [.int r_1]) rfl rfl rfl ?_
  refine sw_if_eq (pc := 9) (tgt := 24) F dX10_openBatch_9 (by decide) (fun _ => ?_) (fun c => absurd (by rw [e_4]; exact hf0) c)
  refine sw_aload_n (pc := 24) F dX10_openBatch_24 rfl 0 rfl ?_
  refine sw_iconst (pc := 25) (v := 1) F dX10_openBatch_25 rfl ?_
  refine sw_calli (pc := 26) (wr := []) (k' := 0) (n' := 0) F (sw_runV (R := ({ frames := 1, cells := 0, slots := 0, locals := 25 } : Room)) (q0 := 0) (na := 1) F T.2.1 T.2.2.1 (k_X10_fails l G h0 b0 b1 np th hh S P 1) [0, 1, 2] rfl (by decide) gX10_openBatch_X10_fails rfl rfl rfl (by decide +kernel) ⟨Nat.le_of_ble_eq_true rfl, Nat.le_of_ble_eq_true rfl⟩ rfl rfl rfl rfl rfl (Nat.le_of_ble_eq_true rfl) dX10_openBatch_26 (Nat.le_of_ble_eq_true rfl) (Nat.le_of_ble_eq_true rfl)) [0, 1, 2] [] rfl rfl (by decide) (by decide) rfl rfl (fun r_5 u_6 h_7 => ?_)
  have e_8 : r_5 = 0 := h_7
  refine sw_eqt (v := .int 0) (by rw [e_8]) ?_
  refine sw_eq (ws' := [(h0, .inr (10, [.ref b0, .ref b1, .int np, .int 1, .long hh])), (b0, .inl (G.2.1.2, 344, .inr (.inl S))), (b1, .inl (G.2.1.2, 1032, .inr (.inl P)))]) (lv' := [(0, .ref h0), (1, .int p), (2, .int q)]) (st' := [.int 0]) rfl rfl rfl ?_
  subst e_4
  exact sw_iret (pc := 29) F T rfl rfl () rfl rfl dX10_openBatch_29
set_option maxHeartbeats 4000000 in
set_option maxRecDepth 100000 in
theorem k_X10_openBatch_f1b (l : Launch) (G : sw_E) (h0 : Nat) (b0 : Nat) (b1 : Nat) (np : Int32) (th : Int32) (hh : Int64) (S : Nat → Int64) (P : Nat → Int64) (p : Int32) (q : Int32) (hf0 : ¬ f_X10_in_r p.toInt64 1 1000000000 = 0) (hf1 : f_X10_in_r q.toInt64 0 1000000000 = 0) : sw_M l G yX10_openBatch wsX10_openBatch ({ frames := 1, cells := 0, slots := 0, locals := 25 } : Room) [.ref h0, .int p, .int q] [(h0, .inr (10, [.ref b0, .ref b1, .int np, .int th, .long hh])), (b0, .inl (G.2.1.2, 344, .inr (.inl S))), (b1, .inl (G.2.1.2, 1032, .inr (.inl P)))] (sw_QI G (S := Unit) (fun (r : Int32) (_ : Unit) => r = 0) (fun _ => [(h0, .inr (10, [.ref b0, .ref b1, .int np, .int 1, .long hh])), (b0, .inl (G.2.1.2, 344, .inr (.inl S))), (b1, .inl (G.2.1.2, 1032, .inr (.inl P)))])) 0 0 := by
  refine sw_start (cc := cX10_openBatch) (maxL := 3) (ret := some .int) (lv := [(0, .ref h0), (1, .int p), (2, .int q)]) (own := RX10) (nm := "openBatch") (by decide +kernel) rfl rfl rfl rfl (Nat.le_of_ble_eq_true rfl) (fun C F T => ?_)
  refine sw_iload_n (pc := 0) F dX10_openBatch_0 rfl 1 rfl ?_
  refine sw_i2l (pc := 1) F dX10_openBatch_1 rfl ?_
  refine sw_lconst (pc := 2) (v := 1) F dX10_openBatch_2 rfl ?_
  refine sw_ldc2 (pc := 3) (v := 1000000000) F (List.mem_of_getElem? (i := 1) rfl) dX10_openBatch_3 ?_
  refine sw_calli (pc := 6) (wr := [(h0, .inr (10, [.ref b0, .ref b1, .int np, .int th, .long hh])), (b0, .inl (G.2.1.2, 344, .inr (.inl S))), (b1, .inl (G.2.1.2, 1032, .inr (.inl P)))]) (k' := 0) (n' := 0) F (sw_runS (R := ({ frames := 1, cells := 0, slots := 0, locals := 25 } : Room)) (na := 3) F T.2.1 T.2.2.1 (k_X10_in l G p.toInt64 1 1000000000) [] rfl (by decide) gX10_openBatch_X10_in rfl rfl rfl (by decide +kernel) ⟨Nat.le_of_ble_eq_true rfl, Nat.le_of_ble_eq_true rfl⟩ rfl rfl (Nat.le_of_ble_eq_true rfl) dX10_openBatch_6 (Nat.le_of_ble_eq_true rfl) (Nat.le_of_ble_eq_true rfl)) [] [0, 1, 2] rfl rfl (by decide) (by decide) rfl rfl (fun r_1 u_2 h_3 => ?_)
  have e_4 : r_1 = f_X10_in_r p.toInt64 1 1000000000 := h_3
  refine sw_eq (ws' := [(h0, .inr (10, [.ref b0, .ref b1, .int np, .int th, .long hh])), (b0, .inl (G.2.1.2, 344, .inr (.inl S))), (b1, .inl (G.2.1.2, 1032, .inr (.inl P)))]) (lv' := [(0, .ref h0), (1, .int p), (2, .int q)]) (st' := [.int r_1]) rfl rfl rfl ?_
  refine sw_if_eq (pc := 9) (tgt := 24) F dX10_openBatch_9 (by decide) (fun c => absurd c (by rw [e_4]; exact hf0)) (fun _ => ?_)
  refine sw_iload_n (pc := 12) F dX10_openBatch_12 rfl 2 rfl ?_
  refine sw_i2l (pc := 13) F dX10_openBatch_13 rfl ?_
  refine sw_lconst (pc := 14) (v := 0) F dX10_openBatch_14 rfl ?_
  refine sw_ldc2 (pc := 15) (v := 1000000000) F (List.mem_of_getElem? (i := 1) rfl) dX10_openBatch_15 ?_
  refine sw_calli (pc := 18) (wr := [(h0, .inr (10, [.ref b0, .ref b1, .int np, .int th, .long hh])), (b0, .inl (G.2.1.2, 344, .inr (.inl S))), (b1, .inl (G.2.1.2, 1032, .inr (.inl P)))]) (k' := 0) (n' := 0) F (sw_runS (R := ({ frames := 1, cells := 0, slots := 0, locals := 25 } : Room)) (na := 3) F T.2.1 T.2.2.1 (k_X10_in l G q.toInt64 0 1000000000) [] rfl (by decide) gX10_openBatch_X10_in rfl rfl rfl (by decide +kernel) ⟨Nat.le_of_ble_eq_true rfl, Nat.le_of_ble_eq_true rfl⟩ rfl rfl (Nat.le_of_ble_eq_true rfl) dX10_openBatch_18 (Nat.le_of_ble_eq_true rfl) (Nat.le_of_ble_eq_true rfl)) [] [0, 1, 2] rfl rfl (by decide) (by decide) rfl rfl (fun r_5 u_6 h_7 => ?_)
  have e_8 : r_5 = f_X10_in_r q.toInt64 0 1000000000 := h_7
  refine sw_eq (ws' := [(h0, .inr (10, [.ref b0, .ref b1, .int np, .int th, .long hh])), (b0, .inl (G.2.1.2, 344, .inr (.inl S))), (b1, .inl (G.2.1.2, 1032, .inr (.inl P)))]) (lv' := [(0, .ref h0), (1, .int p), (2, .int q)]) (st' := [.int r_5]) rfl rfl rfl ?_
  refine sw_if_ne (pc := 21) (tgt := 30) F dX10_openBatch_21 (by decide) (fun c => absurd (by rw [e_8]; exact hf1) c) (fun _ => ?_)
  refine sw_aload_n (pc := 24) F dX10_openBatch_24 rfl 0 rfl ?_
  refine sw_iconst (pc := 25) (v := 1) F dX10_openBatch_25 rfl ?_
  refine sw_calli (pc := 26) (wr := []) (k' := 0) (n' := 0) F (sw_runV (R := ({ frames := 1, cells := 0, slots := 0, locals := 25 } : Room)) (q0 := 0) (na := 1) F T.2.1 T.2.2.1 (k_X10_fails l G h0 b0 b1 np th hh S P 1) [0, 1, 2] rfl (by decide) gX10_openBatch_X10_fails rfl rfl rfl (by decide +kernel) ⟨Nat.le_of_ble_eq_true rfl, Nat.le_of_ble_eq_true rfl⟩ rfl rfl rfl rfl rfl (Nat.le_of_ble_eq_true rfl) dX10_openBatch_26 (Nat.le_of_ble_eq_true rfl) (Nat.le_of_ble_eq_true rfl)) [0, 1, 2] [] rfl rfl (by decide) (by decide) rfl rfl (fun r_9 u_10 h_11 => ?_)
  have e_12 : r_9 = 0 := h_11
  refine sw_eqt (v := .int 0) (by rw [e_12]) ?_
  refine sw_eq (ws' := [(h0, .inr (10, [.ref b0, .ref b1, .int np, .int 1, .long hh])), (b0, .inl (G.2.1.2, 344, .inr (.inl S))), (b1, .inl (G.2.1.2, 1032, .inr (.inl P)))]) (lv' := [(0, .ref h0), (1, .int p), (2, .int q)]) (st' := [.int 0]) rfl rfl rfl ?_
  subst e_8
  subst e_4
  exact sw_iret (pc := 29) F T rfl rfl () rfl rfl dX10_openBatch_29
set_option maxHeartbeats 4000000 in
set_option maxRecDepth 100000 in
theorem k_X10_openBatch_f2 (l : Launch) (G : sw_E) (h0 : Nat) (b0 : Nat) (b1 : Nat) (np : Int32) (th : Int32) (hh : Int64) (S : Nat → Int64) (P : Nat → Int64) (p : Int32) (q : Int32) (hf0 : ¬ f_X10_in_r p.toInt64 1 1000000000 = 0) (hf1 : ¬ f_X10_in_r q.toInt64 0 1000000000 = 0) (ho : S 45 = 1) : sw_M l G yX10_openBatch wsX10_openBatch ({ frames := 1, cells := 0, slots := 0, locals := 25 } : Room) [.ref h0, .int p, .int q] [(h0, .inr (10, [.ref b0, .ref b1, .int np, .int th, .long hh])), (b0, .inl (G.2.1.2, 344, .inr (.inl S))), (b1, .inl (G.2.1.2, 1032, .inr (.inl P)))] (sw_QI G (S := Unit) (fun (r : Int32) (_ : Unit) => r = 0) (fun _ => [(h0, .inr (10, [.ref b0, .ref b1, .int np, .int 2, .long hh])), (b0, .inl (G.2.1.2, 344, .inr (.inl S))), (b1, .inl (G.2.1.2, 1032, .inr (.inl P)))])) 0 0 := by
  refine sw_start (cc := cX10_openBatch) (maxL := 3) (ret := some .int) (lv := [(0, .ref h0), (1, .int p), (2, .int q)]) (own := RX10) (nm := "openBatch") (by decide +kernel) rfl rfl rfl rfl (Nat.le_of_ble_eq_true rfl) (fun C F T => ?_)
  have in10 : ∀ w ∈ u_ws RX10 TX10 5, w ∈ wsX10_openBatch := fun w h => List.mem_cons_of_mem _ (List.mem_append_right _ (h))
  refine sw_iload_n (pc := 0) F dX10_openBatch_0 rfl 1 rfl ?_
  refine sw_i2l (pc := 1) F dX10_openBatch_1 rfl ?_
  refine sw_lconst (pc := 2) (v := 1) F dX10_openBatch_2 rfl ?_
  refine sw_ldc2 (pc := 3) (v := 1000000000) F (List.mem_of_getElem? (i := 1) rfl) dX10_openBatch_3 ?_
  refine sw_calli (pc := 6) (wr := [(h0, .inr (10, [.ref b0, .ref b1, .int np, .int th, .long hh])), (b0, .inl (G.2.1.2, 344, .inr (.inl S))), (b1, .inl (G.2.1.2, 1032, .inr (.inl P)))]) (k' := 0) (n' := 0) F (sw_runS (R := ({ frames := 1, cells := 0, slots := 0, locals := 25 } : Room)) (na := 3) F T.2.1 T.2.2.1 (k_X10_in l G p.toInt64 1 1000000000) [] rfl (by decide) gX10_openBatch_X10_in rfl rfl rfl (by decide +kernel) ⟨Nat.le_of_ble_eq_true rfl, Nat.le_of_ble_eq_true rfl⟩ rfl rfl (Nat.le_of_ble_eq_true rfl) dX10_openBatch_6 (Nat.le_of_ble_eq_true rfl) (Nat.le_of_ble_eq_true rfl)) [] [0, 1, 2] rfl rfl (by decide) (by decide) rfl rfl (fun r_1 u_2 h_3 => ?_)
  have e_4 : r_1 = f_X10_in_r p.toInt64 1 1000000000 := h_3
  refine sw_eq (ws' := [(h0, .inr (10, [.ref b0, .ref b1, .int np, .int th, .long hh])), (b0, .inl (G.2.1.2, 344, .inr (.inl S))), (b1, .inl (G.2.1.2, 1032, .inr (.inl P)))]) (lv' := [(0, .ref h0), (1, .int p), (2, .int q)]) (st' := [.int r_1]) rfl rfl rfl ?_
  refine sw_if_eq (pc := 9) (tgt := 24) F dX10_openBatch_9 (by decide) (fun c => absurd c (by rw [e_4]; exact hf0)) (fun _ => ?_)
  refine sw_iload_n (pc := 12) F dX10_openBatch_12 rfl 2 rfl ?_
  refine sw_i2l (pc := 13) F dX10_openBatch_13 rfl ?_
  refine sw_lconst (pc := 14) (v := 0) F dX10_openBatch_14 rfl ?_
  refine sw_ldc2 (pc := 15) (v := 1000000000) F (List.mem_of_getElem? (i := 1) rfl) dX10_openBatch_15 ?_
  refine sw_calli (pc := 18) (wr := [(h0, .inr (10, [.ref b0, .ref b1, .int np, .int th, .long hh])), (b0, .inl (G.2.1.2, 344, .inr (.inl S))), (b1, .inl (G.2.1.2, 1032, .inr (.inl P)))]) (k' := 0) (n' := 0) F (sw_runS (R := ({ frames := 1, cells := 0, slots := 0, locals := 25 } : Room)) (na := 3) F T.2.1 T.2.2.1 (k_X10_in l G q.toInt64 0 1000000000) [] rfl (by decide) gX10_openBatch_X10_in rfl rfl rfl (by decide +kernel) ⟨Nat.le_of_ble_eq_true rfl, Nat.le_of_ble_eq_true rfl⟩ rfl rfl (Nat.le_of_ble_eq_true rfl) dX10_openBatch_18 (Nat.le_of_ble_eq_true rfl) (Nat.le_of_ble_eq_true rfl)) [] [0, 1, 2] rfl rfl (by decide) (by decide) rfl rfl (fun r_5 u_6 h_7 => ?_)
  have e_8 : r_5 = f_X10_in_r q.toInt64 0 1000000000 := h_7
  refine sw_eq (ws' := [(h0, .inr (10, [.ref b0, .ref b1, .int np, .int th, .long hh])), (b0, .inl (G.2.1.2, 344, .inr (.inl S))), (b1, .inl (G.2.1.2, 1032, .inr (.inl P)))]) (lv' := [(0, .ref h0), (1, .int p), (2, .int q)]) (st' := [.int r_5]) rfl rfl rfl ?_
  refine sw_if_ne (pc := 21) (tgt := 30) F dX10_openBatch_21 (by decide) (fun _ => ?_) (fun c => absurd c (by rw [e_8]; exact hf1))
  refine sw_aload_n (pc := 30) F dX10_openBatch_30 rfl 0 rfl ?_
  refine sw_get (pc := 31) (Cn := RX10) (T := TX10) (N := 5) (ci := 10) (v := .ref b0) F in10 0 rfl rfl 0 (by decide) rfl (List.mem_of_getElem? (i := 2) rfl) rfl dX10_openBatch_31 ?_
  refine sw_bipush (pc := 34) (v := 45) F dX10_openBatch_34 rfl ?_
  refine sw_lald (pc := 36) F 1 rfl (sw_in rfl) dX10_openBatch_36 ?_
  refine sw_naml (e := S 45) rfl (fun x_9 ex_9 => ?_)
  refine sw_lconst (pc := 37) (v := 1) F dX10_openBatch_37 rfl ?_
  refine sw_lcmp_ne (pc := 38) (tgt := 48) F dX10_openBatch_38 dX10_openBatch_39 (by decide) (fun c => absurd (by subst_vars; exact ho) c) (fun _ => ?_)
  refine sw_aload_n (pc := 42) F dX10_openBatch_42 rfl 0 rfl ?_
  refine sw_iconst (pc := 43) (v := 2) F dX10_openBatch_43 rfl ?_
  refine sw_calli (pc := 44) (wr := []) (k' := 0) (n' := 0) F (sw_runV (R := ({ frames := 1, cells := 0, slots := 0, locals := 25 } : Room)) (q0 := 0) (na := 1) F T.2.1 T.2.2.1 (k_X10_fails l G h0 b0 b1 np th hh S P 2) [0, 1, 2] rfl (by decide) gX10_openBatch_X10_fails rfl rfl rfl (by decide +kernel) ⟨Nat.le_of_ble_eq_true rfl, Nat.le_of_ble_eq_true rfl⟩ rfl rfl rfl rfl rfl (Nat.le_of_ble_eq_true rfl) dX10_openBatch_44 (Nat.le_of_ble_eq_true rfl) (Nat.le_of_ble_eq_true rfl)) [0, 1, 2] [] rfl rfl (by decide) (by decide) rfl rfl (fun r_10 u_11 h_12 => ?_)
  have e_13 : r_10 = 0 := h_12
  refine sw_eqt (v := .int 0) (by rw [e_13]) ?_
  refine sw_eq (ws' := [(h0, .inr (10, [.ref b0, .ref b1, .int np, .int 2, .long hh])), (b0, .inl (G.2.1.2, 344, .inr (.inl S))), (b1, .inl (G.2.1.2, 1032, .inr (.inl P)))]) (lv' := [(0, .ref h0), (1, .int p), (2, .int q)]) (st' := [.int 0]) rfl rfl rfl ?_
  subst ex_9
  subst e_8
  subst e_4
  exact sw_iret (pc := 47) F T rfl rfl () rfl rfl dX10_openBatch_47
set_option maxHeartbeats 4000000 in
set_option maxRecDepth 100000 in
theorem k_X10_closeBatch_f1 (l : Launch) (G : sw_E) (h0 : Nat) (b0 : Nat) (b1 : Nat) (np : Int32) (th : Int32) (hh : Int64) (S : Nat → Int64) (P : Nat → Int64) (ho : S 45 = 0) : sw_M l G yX10_closeBatch wsX10_closeBatch ({ frames := 1, cells := 0, slots := 0, locals := 21 } : Room) [.ref h0] [(h0, .inr (10, [.ref b0, .ref b1, .int np, .int th, .long hh])), (b0, .inl (G.2.1.2, 344, .inr (.inl S))), (b1, .inl (G.2.1.2, 1032, .inr (.inl P)))] (sw_QL G (S := Unit) (fun (r : Int64) (_ : Unit) => r = 0) (fun _ => [(h0, .inr (10, [.ref b0, .ref b1, .int np, .int 1, .long hh])), (b0, .inl (G.2.1.2, 344, .inr (.inl S))), (b1, .inl (G.2.1.2, 1032, .inr (.inl P)))])) 0 0 := by
  refine sw_start (cc := cX10_closeBatch) (maxL := 1) (ret := some .long) (lv := [(0, .ref h0)]) (own := RX10) (nm := "closeBatch") (by decide +kernel) rfl rfl rfl rfl (Nat.le_of_ble_eq_true rfl) (fun C F T => ?_)
  have in10 : ∀ w ∈ u_ws RX10 TX10 5, w ∈ wsX10_closeBatch := fun w h => List.mem_cons_of_mem _ (List.mem_append_right _ (h))
  refine sw_aload_n (pc := 0) F dX10_closeBatch_0 rfl 0 rfl ?_
  refine sw_get (pc := 1) (Cn := RX10) (T := TX10) (N := 5) (ci := 10) (v := .ref b0) F in10 0 rfl rfl 0 (by decide) rfl (List.mem_of_getElem? (i := 1) rfl) rfl dX10_closeBatch_1 ?_
  refine sw_bipush (pc := 4) (v := 45) F dX10_closeBatch_4 rfl ?_
  refine sw_lald (pc := 6) F 1 rfl (sw_in rfl) dX10_closeBatch_6 ?_
  refine sw_naml (e := S 45) rfl (fun x_1 ex_1 => ?_)
  refine sw_lconst (pc := 7) (v := 0) F dX10_closeBatch_7 rfl ?_
  refine sw_lcmp_ne (pc := 8) (tgt := 19) F dX10_closeBatch_8 dX10_closeBatch_9 (by decide) (fun c => absurd (by subst_vars; exact ho) c) (fun _ => ?_)
  refine sw_aload_n (pc := 12) F dX10_closeBatch_12 rfl 0 rfl ?_
  refine sw_iconst (pc := 13) (v := 1) F dX10_closeBatch_13 rfl ?_
  refine sw_calli (pc := 14) (wr := []) (k' := 0) (n' := 0) F (sw_runV (R := ({ frames := 1, cells := 0, slots := 0, locals := 21 } : Room)) (q0 := 0) (na := 1) F T.2.1 T.2.2.1 (k_X10_fails l G h0 b0 b1 np th hh S P 1) [0, 1, 2] rfl (by decide) gX10_closeBatch_X10_fails rfl rfl rfl (by decide +kernel) ⟨Nat.le_of_ble_eq_true rfl, Nat.le_of_ble_eq_true rfl⟩ rfl rfl rfl rfl rfl (Nat.le_of_ble_eq_true rfl) dX10_closeBatch_14 (Nat.le_of_ble_eq_true rfl) (Nat.le_of_ble_eq_true rfl)) [0, 1, 2] [] rfl rfl (by decide) (by decide) rfl rfl (fun r_2 u_3 h_4 => ?_)
  have e_5 : r_2 = 0 := h_4
  refine sw_eqt (v := .int 0) (by rw [e_5]) ?_
  refine sw_eq (ws' := [(h0, .inr (10, [.ref b0, .ref b1, .int np, .int 1, .long hh])), (b0, .inl (G.2.1.2, 344, .inr (.inl S))), (b1, .inl (G.2.1.2, 1032, .inr (.inl P)))]) (lv' := [(0, .ref h0)]) (st' := [.int 0]) rfl rfl rfl ?_
  refine sw_i2l (pc := 17) (v := 0) F dX10_closeBatch_17 rfl ?_
  subst ex_1
  exact sw_lret (pc := 18) F T () rfl rfl dX10_closeBatch_18
set_option maxHeartbeats 4000000 in
set_option maxRecDepth 100000 in
theorem k_X10_flowFor_f1 (l : Launch) (G : sw_E) (h0 : Nat) (b0 : Nat) (b1 : Nat) (np : Int32) (th : Int32) (hh : Int64) (S : Nat → Int64) (P : Nat → Int64) (p : Int32) (q : Int32) (s : Int32) (hf0 : f_X10_in_r p.toInt64 0 30000 = 0) : sw_M l G yX10_flowFor wsX10_flowFor ({ frames := 1, cells := 0, slots := 0, locals := 25 } : Room) [.ref h0, .int p, .int q, .int s] [(h0, .inr (10, [.ref b0, .ref b1, .int np, .int th, .long hh])), (b0, .inl (G.2.1.2, 344, .inr (.inl S))), (b1, .inl (G.2.1.2, 1032, .inr (.inl P)))] (sw_QL G (S := Unit) (fun (r : Int64) (_ : Unit) => r = 0) (fun _ => [(h0, .inr (10, [.ref b0, .ref b1, .int np, .int 1, .long hh])), (b0, .inl (G.2.1.2, 344, .inr (.inl S))), (b1, .inl (G.2.1.2, 1032, .inr (.inl P)))])) 0 0 := by
  refine sw_start (cc := cX10_flowFor) (maxL := 4) (ret := some .long) (lv := [(0, .ref h0), (1, .int p), (2, .int q), (3, .int s)]) (own := RX10) (nm := "flowFor") (by decide +kernel) rfl rfl rfl rfl (Nat.le_of_ble_eq_true rfl) (fun C F T => ?_)
  refine sw_iload_n (pc := 0) F dX10_flowFor_0 rfl 1 rfl ?_
  refine sw_i2l (pc := 1) F dX10_flowFor_1 rfl ?_
  refine sw_lconst (pc := 2) (v := 0) F dX10_flowFor_2 rfl ?_
  refine sw_ldc2 (pc := 3) (v := 30000) F (List.mem_of_getElem? (i := 1) rfl) dX10_flowFor_3 ?_
  refine sw_calli (pc := 6) (wr := [(h0, .inr (10, [.ref b0, .ref b1, .int np, .int th, .long hh])), (b0, .inl (G.2.1.2, 344, .inr (.inl S))), (b1, .inl (G.2.1.2, 1032, .inr (.inl P)))]) (k' := 0) (n' := 0) F (sw_runS (R := ({ frames := 1, cells := 0, slots := 0, locals := 25 } : Room)) (na := 3) F T.2.1 T.2.2.1 (k_X10_in l G p.toInt64 0 30000) [] rfl (by decide) gX10_flowFor_X10_in rfl rfl rfl (by decide +kernel) ⟨Nat.le_of_ble_eq_true rfl, Nat.le_of_ble_eq_true rfl⟩ rfl rfl (Nat.le_of_ble_eq_true rfl) dX10_flowFor_6 (Nat.le_of_ble_eq_true rfl) (Nat.le_of_ble_eq_true rfl)) [] [0, 1, 2] rfl rfl (by decide) (by decide) rfl rfl (fun r_1 u_2 h_3 => ?_)
  have e_4 : r_1 = f_X10_in_r p.toInt64 0 30000 := h_3
  refine sw_eq (ws' := [(h0, .inr (10, [.ref b0, .ref b1, .int np, .int th, .long hh])), (b0, .inl (G.2.1.2, 344, .inr (.inl S))), (b1, .inl (G.2.1.2, 1032, .inr (.inl P)))]) (lv' := [(0, .ref h0), (1, .int p), (2, .int q), (3, .int s)]) (st' := [.int r_1]) rfl rfl rfl ?_
  refine sw_if_eq (pc := 9) (tgt := 38) F dX10_flowFor_9 (by decide) (fun _ => ?_) (fun c => absurd (by rw [e_4]; exact hf0) c)
  refine sw_aload_n (pc := 38) F dX10_flowFor_38 rfl 0 rfl ?_
  refine sw_iconst (pc := 39) (v := 1) F dX10_flowFor_39 rfl ?_
  refine sw_calli (pc := 40) (wr := []) (k' := 0) (n' := 0) F (sw_runV (R := ({ frames := 1, cells := 0, slots := 0, locals := 25 } : Room)) (q0 := 0) (na := 1) F T.2.1 T.2.2.1 (k_X10_fails l G h0 b0 b1 np th hh S P 1) [0, 1, 2] rfl (by decide) gX10_flowFor_X10_fails rfl rfl rfl (by decide +kernel) ⟨Nat.le_of_ble_eq_true rfl, Nat.le_of_ble_eq_true rfl⟩ rfl rfl rfl rfl rfl (Nat.le_of_ble_eq_true rfl) dX10_flowFor_40 (Nat.le_of_ble_eq_true rfl) (Nat.le_of_ble_eq_true rfl)) [0, 1, 2] [] rfl rfl (by decide) (by decide) rfl rfl (fun r_5 u_6 h_7 => ?_)
  have e_8 : r_5 = 0 := h_7
  refine sw_eqt (v := .int 0) (by rw [e_8]) ?_
  refine sw_eq (ws' := [(h0, .inr (10, [.ref b0, .ref b1, .int np, .int 1, .long hh])), (b0, .inl (G.2.1.2, 344, .inr (.inl S))), (b1, .inl (G.2.1.2, 1032, .inr (.inl P)))]) (lv' := [(0, .ref h0), (1, .int p), (2, .int q), (3, .int s)]) (st' := [.int 0]) rfl rfl rfl ?_
  refine sw_i2l (pc := 43) (v := 0) F dX10_flowFor_43 rfl ?_
  subst e_4
  exact sw_lret (pc := 44) F T () rfl rfl dX10_flowFor_44
set_option maxHeartbeats 4000000 in
set_option maxRecDepth 100000 in
theorem k_X10_flowFor_f1b (l : Launch) (G : sw_E) (h0 : Nat) (b0 : Nat) (b1 : Nat) (np : Int32) (th : Int32) (hh : Int64) (S : Nat → Int64) (P : Nat → Int64) (p : Int32) (q : Int32) (s : Int32) (hf0 : ¬ f_X10_in_r p.toInt64 0 30000 = 0) (hf1 : f_X10_in_r q.toInt64 0 30000 = 0) : sw_M l G yX10_flowFor wsX10_flowFor ({ frames := 1, cells := 0, slots := 0, locals := 25 } : Room) [.ref h0, .int p, .int q, .int s] [(h0, .inr (10, [.ref b0, .ref b1, .int np, .int th, .long hh])), (b0, .inl (G.2.1.2, 344, .inr (.inl S))), (b1, .inl (G.2.1.2, 1032, .inr (.inl P)))] (sw_QL G (S := Unit) (fun (r : Int64) (_ : Unit) => r = 0) (fun _ => [(h0, .inr (10, [.ref b0, .ref b1, .int np, .int 1, .long hh])), (b0, .inl (G.2.1.2, 344, .inr (.inl S))), (b1, .inl (G.2.1.2, 1032, .inr (.inl P)))])) 0 0 := by
  refine sw_start (cc := cX10_flowFor) (maxL := 4) (ret := some .long) (lv := [(0, .ref h0), (1, .int p), (2, .int q), (3, .int s)]) (own := RX10) (nm := "flowFor") (by decide +kernel) rfl rfl rfl rfl (Nat.le_of_ble_eq_true rfl) (fun C F T => ?_)
  refine sw_iload_n (pc := 0) F dX10_flowFor_0 rfl 1 rfl ?_
  refine sw_i2l (pc := 1) F dX10_flowFor_1 rfl ?_
  refine sw_lconst (pc := 2) (v := 0) F dX10_flowFor_2 rfl ?_
  refine sw_ldc2 (pc := 3) (v := 30000) F (List.mem_of_getElem? (i := 1) rfl) dX10_flowFor_3 ?_
  refine sw_calli (pc := 6) (wr := [(h0, .inr (10, [.ref b0, .ref b1, .int np, .int th, .long hh])), (b0, .inl (G.2.1.2, 344, .inr (.inl S))), (b1, .inl (G.2.1.2, 1032, .inr (.inl P)))]) (k' := 0) (n' := 0) F (sw_runS (R := ({ frames := 1, cells := 0, slots := 0, locals := 25 } : Room)) (na := 3) F T.2.1 T.2.2.1 (k_X10_in l G p.toInt64 0 30000) [] rfl (by decide) gX10_flowFor_X10_in rfl rfl rfl (by decide +kernel) ⟨Nat.le_of_ble_eq_true rfl, Nat.le_of_ble_eq_true rfl⟩ rfl rfl (Nat.le_of_ble_eq_true rfl) dX10_flowFor_6 (Nat.le_of_ble_eq_true rfl) (Nat.le_of_ble_eq_true rfl)) [] [0, 1, 2] rfl rfl (by decide) (by decide) rfl rfl (fun r_1 u_2 h_3 => ?_)
  have e_4 : r_1 = f_X10_in_r p.toInt64 0 30000 := h_3
  refine sw_eq (ws' := [(h0, .inr (10, [.ref b0, .ref b1, .int np, .int th, .long hh])), (b0, .inl (G.2.1.2, 344, .inr (.inl S))), (b1, .inl (G.2.1.2, 1032, .inr (.inl P)))]) (lv' := [(0, .ref h0), (1, .int p), (2, .int q), (3, .int s)]) (st' := [.int r_1]) rfl rfl rfl ?_
  refine sw_if_eq (pc := 9) (tgt := 38) F dX10_flowFor_9 (by decide) (fun c => absurd c (by rw [e_4]; exact hf0)) (fun _ => ?_)
  refine sw_iload_n (pc := 12) F dX10_flowFor_12 rfl 2 rfl ?_
  refine sw_i2l (pc := 13) F dX10_flowFor_13 rfl ?_
  refine sw_lconst (pc := 14) (v := 0) F dX10_flowFor_14 rfl ?_
  refine sw_ldc2 (pc := 15) (v := 30000) F (List.mem_of_getElem? (i := 1) rfl) dX10_flowFor_15 ?_
  refine sw_calli (pc := 18) (wr := [(h0, .inr (10, [.ref b0, .ref b1, .int np, .int th, .long hh])), (b0, .inl (G.2.1.2, 344, .inr (.inl S))), (b1, .inl (G.2.1.2, 1032, .inr (.inl P)))]) (k' := 0) (n' := 0) F (sw_runS (R := ({ frames := 1, cells := 0, slots := 0, locals := 25 } : Room)) (na := 3) F T.2.1 T.2.2.1 (k_X10_in l G q.toInt64 0 30000) [] rfl (by decide) gX10_flowFor_X10_in rfl rfl rfl (by decide +kernel) ⟨Nat.le_of_ble_eq_true rfl, Nat.le_of_ble_eq_true rfl⟩ rfl rfl (Nat.le_of_ble_eq_true rfl) dX10_flowFor_18 (Nat.le_of_ble_eq_true rfl) (Nat.le_of_ble_eq_true rfl)) [] [0, 1, 2] rfl rfl (by decide) (by decide) rfl rfl (fun r_5 u_6 h_7 => ?_)
  have e_8 : r_5 = f_X10_in_r q.toInt64 0 30000 := h_7
  refine sw_eq (ws' := [(h0, .inr (10, [.ref b0, .ref b1, .int np, .int th, .long hh])), (b0, .inl (G.2.1.2, 344, .inr (.inl S))), (b1, .inl (G.2.1.2, 1032, .inr (.inl P)))]) (lv' := [(0, .ref h0), (1, .int p), (2, .int q), (3, .int s)]) (st' := [.int r_5]) rfl rfl rfl ?_
  refine sw_if_eq (pc := 21) (tgt := 38) F dX10_flowFor_21 (by decide) (fun _ => ?_) (fun c => absurd (by rw [e_8]; exact hf1) c)
  refine sw_aload_n (pc := 38) F dX10_flowFor_38 rfl 0 rfl ?_
  refine sw_iconst (pc := 39) (v := 1) F dX10_flowFor_39 rfl ?_
  refine sw_calli (pc := 40) (wr := []) (k' := 0) (n' := 0) F (sw_runV (R := ({ frames := 1, cells := 0, slots := 0, locals := 25 } : Room)) (q0 := 0) (na := 1) F T.2.1 T.2.2.1 (k_X10_fails l G h0 b0 b1 np th hh S P 1) [0, 1, 2] rfl (by decide) gX10_flowFor_X10_fails rfl rfl rfl (by decide +kernel) ⟨Nat.le_of_ble_eq_true rfl, Nat.le_of_ble_eq_true rfl⟩ rfl rfl rfl rfl rfl (Nat.le_of_ble_eq_true rfl) dX10_flowFor_40 (Nat.le_of_ble_eq_true rfl) (Nat.le_of_ble_eq_true rfl)) [0, 1, 2] [] rfl rfl (by decide) (by decide) rfl rfl (fun r_9 u_10 h_11 => ?_)
  have e_12 : r_9 = 0 := h_11
  refine sw_eqt (v := .int 0) (by rw [e_12]) ?_
  refine sw_eq (ws' := [(h0, .inr (10, [.ref b0, .ref b1, .int np, .int 1, .long hh])), (b0, .inl (G.2.1.2, 344, .inr (.inl S))), (b1, .inl (G.2.1.2, 1032, .inr (.inl P)))]) (lv' := [(0, .ref h0), (1, .int p), (2, .int q), (3, .int s)]) (st' := [.int 0]) rfl rfl rfl ?_
  refine sw_i2l (pc := 43) (v := 0) F dX10_flowFor_43 rfl ?_
  subst e_8
  subst e_4
  exact sw_lret (pc := 44) F T () rfl rfl dX10_flowFor_44
set_option maxHeartbeats 4000000 in
set_option maxRecDepth 100000 in
theorem k_X10_flowFor_f1c (l : Launch) (G : sw_E) (h0 : Nat) (b0 : Nat) (b1 : Nat) (np : Int32) (th : Int32) (hh : Int64) (S : Nat → Int64) (P : Nat → Int64) (p : Int32) (q : Int32) (s : Int32) (hf0 : ¬ f_X10_in_r p.toInt64 0 30000 = 0) (hf1 : ¬ f_X10_in_r q.toInt64 0 30000 = 0) (hf2 : f_X10_in_r s.toInt64 (-500) 3000 = 0) : sw_M l G yX10_flowFor wsX10_flowFor ({ frames := 1, cells := 0, slots := 0, locals := 25 } : Room) [.ref h0, .int p, .int q, .int s] [(h0, .inr (10, [.ref b0, .ref b1, .int np, .int th, .long hh])), (b0, .inl (G.2.1.2, 344, .inr (.inl S))), (b1, .inl (G.2.1.2, 1032, .inr (.inl P)))] (sw_QL G (S := Unit) (fun (r : Int64) (_ : Unit) => r = 0) (fun _ => [(h0, .inr (10, [.ref b0, .ref b1, .int np, .int 1, .long hh])), (b0, .inl (G.2.1.2, 344, .inr (.inl S))), (b1, .inl (G.2.1.2, 1032, .inr (.inl P)))])) 0 0 := by
  refine sw_start (cc := cX10_flowFor) (maxL := 4) (ret := some .long) (lv := [(0, .ref h0), (1, .int p), (2, .int q), (3, .int s)]) (own := RX10) (nm := "flowFor") (by decide +kernel) rfl rfl rfl rfl (Nat.le_of_ble_eq_true rfl) (fun C F T => ?_)
  refine sw_iload_n (pc := 0) F dX10_flowFor_0 rfl 1 rfl ?_
  refine sw_i2l (pc := 1) F dX10_flowFor_1 rfl ?_
  refine sw_lconst (pc := 2) (v := 0) F dX10_flowFor_2 rfl ?_
  refine sw_ldc2 (pc := 3) (v := 30000) F (List.mem_of_getElem? (i := 1) rfl) dX10_flowFor_3 ?_
  refine sw_calli (pc := 6) (wr := [(h0, .inr (10, [.ref b0, .ref b1, .int np, .int th, .long hh])), (b0, .inl (G.2.1.2, 344, .inr (.inl S))), (b1, .inl (G.2.1.2, 1032, .inr (.inl P)))]) (k' := 0) (n' := 0) F (sw_runS (R := ({ frames := 1, cells := 0, slots := 0, locals := 25 } : Room)) (na := 3) F T.2.1 T.2.2.1 (k_X10_in l G p.toInt64 0 30000) [] rfl (by decide) gX10_flowFor_X10_in rfl rfl rfl (by decide +kernel) ⟨Nat.le_of_ble_eq_true rfl, Nat.le_of_ble_eq_true rfl⟩ rfl rfl (Nat.le_of_ble_eq_true rfl) dX10_flowFor_6 (Nat.le_of_ble_eq_true rfl) (Nat.le_of_ble_eq_true rfl)) [] [0, 1, 2] rfl rfl (by decide) (by decide) rfl rfl (fun r_1 u_2 h_3 => ?_)
  have e_4 : r_1 = f_X10_in_r p.toInt64 0 30000 := h_3
  refine sw_eq (ws' := [(h0, .inr (10, [.ref b0, .ref b1, .int np, .int th, .long hh])), (b0, .inl (G.2.1.2, 344, .inr (.inl S))), (b1, .inl (G.2.1.2, 1032, .inr (.inl P)))]) (lv' := [(0, .ref h0), (1, .int p), (2, .int q), (3, .int s)]) (st' := [.int r_1]) rfl rfl rfl ?_
  refine sw_if_eq (pc := 9) (tgt := 38) F dX10_flowFor_9 (by decide) (fun c => absurd c (by rw [e_4]; exact hf0)) (fun _ => ?_)
  refine sw_iload_n (pc := 12) F dX10_flowFor_12 rfl 2 rfl ?_
  refine sw_i2l (pc := 13) F dX10_flowFor_13 rfl ?_
  refine sw_lconst (pc := 14) (v := 0) F dX10_flowFor_14 rfl ?_
  refine sw_ldc2 (pc := 15) (v := 30000) F (List.mem_of_getElem? (i := 1) rfl) dX10_flowFor_15 ?_
  refine sw_calli (pc := 18) (wr := [(h0, .inr (10, [.ref b0, .ref b1, .int np, .int th, .long hh])), (b0, .inl (G.2.1.2, 344, .inr (.inl S))), (b1, .inl (G.2.1.2, 1032, .inr (.inl P)))]) (k' := 0) (n' := 0) F (sw_runS (R := ({ frames := 1, cells := 0, slots := 0, locals := 25 } : Room)) (na := 3) F T.2.1 T.2.2.1 (k_X10_in l G q.toInt64 0 30000) [] rfl (by decide) gX10_flowFor_X10_in rfl rfl rfl (by decide +kernel) ⟨Nat.le_of_ble_eq_true rfl, Nat.le_of_ble_eq_true rfl⟩ rfl rfl (Nat.le_of_ble_eq_true rfl) dX10_flowFor_18 (Nat.le_of_ble_eq_true rfl) (Nat.le_of_ble_eq_true rfl)) [] [0, 1, 2] rfl rfl (by decide) (by decide) rfl rfl (fun r_5 u_6 h_7 => ?_)
  have e_8 : r_5 = f_X10_in_r q.toInt64 0 30000 := h_7
  refine sw_eq (ws' := [(h0, .inr (10, [.ref b0, .ref b1, .int np, .int th, .long hh])), (b0, .inl (G.2.1.2, 344, .inr (.inl S))), (b1, .inl (G.2.1.2, 1032, .inr (.inl P)))]) (lv' := [(0, .ref h0), (1, .int p), (2, .int q), (3, .int s)]) (st' := [.int r_5]) rfl rfl rfl ?_
  refine sw_if_eq (pc := 21) (tgt := 38) F dX10_flowFor_21 (by decide) (fun c => absurd c (by rw [e_8]; exact hf1)) (fun _ => ?_)
  refine sw_iload_n (pc := 24) F dX10_flowFor_24 rfl 3 rfl ?_
  refine sw_i2l (pc := 25) F dX10_flowFor_25 rfl ?_
  refine sw_ldc2 (pc := 26) (v := (-500)) F (List.mem_of_getElem? (i := 2) rfl) dX10_flowFor_26 ?_
  refine sw_ldc2 (pc := 29) (v := 3000) F (List.mem_of_getElem? (i := 3) rfl) dX10_flowFor_29 ?_
  refine sw_calli (pc := 32) (wr := [(h0, .inr (10, [.ref b0, .ref b1, .int np, .int th, .long hh])), (b0, .inl (G.2.1.2, 344, .inr (.inl S))), (b1, .inl (G.2.1.2, 1032, .inr (.inl P)))]) (k' := 0) (n' := 0) F (sw_runS (R := ({ frames := 1, cells := 0, slots := 0, locals := 25 } : Room)) (na := 3) F T.2.1 T.2.2.1 (k_X10_in l G s.toInt64 (-500) 3000) [] rfl (by decide) gX10_flowFor_X10_in rfl rfl rfl (by decide +kernel) ⟨Nat.le_of_ble_eq_true rfl, Nat.le_of_ble_eq_true rfl⟩ rfl rfl (Nat.le_of_ble_eq_true rfl) dX10_flowFor_32 (Nat.le_of_ble_eq_true rfl) (Nat.le_of_ble_eq_true rfl)) [] [0, 1, 2] rfl rfl (by decide) (by decide) rfl rfl (fun r_9 u_10 h_11 => ?_)
  have e_12 : r_9 = f_X10_in_r s.toInt64 (-500) 3000 := h_11
  refine sw_eq (ws' := [(h0, .inr (10, [.ref b0, .ref b1, .int np, .int th, .long hh])), (b0, .inl (G.2.1.2, 344, .inr (.inl S))), (b1, .inl (G.2.1.2, 1032, .inr (.inl P)))]) (lv' := [(0, .ref h0), (1, .int p), (2, .int q), (3, .int s)]) (st' := [.int r_9]) rfl rfl rfl ?_
  refine sw_if_ne (pc := 35) (tgt := 45) F dX10_flowFor_35 (by decide) (fun c => absurd (by rw [e_12]; exact hf2) c) (fun _ => ?_)
  refine sw_aload_n (pc := 38) F dX10_flowFor_38 rfl 0 rfl ?_
  refine sw_iconst (pc := 39) (v := 1) F dX10_flowFor_39 rfl ?_
  refine sw_calli (pc := 40) (wr := []) (k' := 0) (n' := 0) F (sw_runV (R := ({ frames := 1, cells := 0, slots := 0, locals := 25 } : Room)) (q0 := 0) (na := 1) F T.2.1 T.2.2.1 (k_X10_fails l G h0 b0 b1 np th hh S P 1) [0, 1, 2] rfl (by decide) gX10_flowFor_X10_fails rfl rfl rfl (by decide +kernel) ⟨Nat.le_of_ble_eq_true rfl, Nat.le_of_ble_eq_true rfl⟩ rfl rfl rfl rfl rfl (Nat.le_of_ble_eq_true rfl) dX10_flowFor_40 (Nat.le_of_ble_eq_true rfl) (Nat.le_of_ble_eq_true rfl)) [0, 1, 2] [] rfl rfl (by decide) (by decide) rfl rfl (fun r_13 u_14 h_15 => ?_)
  have e_16 : r_13 = 0 := h_15
  refine sw_eqt (v := .int 0) (by rw [e_16]) ?_
  refine sw_eq (ws' := [(h0, .inr (10, [.ref b0, .ref b1, .int np, .int 1, .long hh])), (b0, .inl (G.2.1.2, 344, .inr (.inl S))), (b1, .inl (G.2.1.2, 1032, .inr (.inl P)))]) (lv' := [(0, .ref h0), (1, .int p), (2, .int q), (3, .int s)]) (st' := [.int 0]) rfl rfl rfl ?_
  refine sw_i2l (pc := 43) (v := 0) F dX10_flowFor_43 rfl ?_
  subst e_12
  subst e_8
  subst e_4
  exact sw_lret (pc := 44) F T () rfl rfl dX10_flowFor_44
set_option maxHeartbeats 4000000 in
set_option maxRecDepth 100000 in
theorem k_X10_differentialFor_f1 (l : Launch) (G : sw_E) (h0 : Nat) (b0 : Nat) (b1 : Nat) (np : Int32) (th : Int32) (hh : Int64) (S : Nat → Int64) (P : Nat → Int64) (v : Int64) (hf0 : f_X10_in_r v 0 1000000000 = 0) : sw_M l G yX10_differentialFor wsX10_differentialFor ({ frames := 1, cells := 0, slots := 0, locals := 25 } : Room) [.ref h0, .long v] [(h0, .inr (10, [.ref b0, .ref b1, .int np, .int th, .long hh])), (b0, .inl (G.2.1.2, 344, .inr (.inl S))), (b1, .inl (G.2.1.2, 1032, .inr (.inl P)))] (sw_QI G (S := Unit) (fun (r : Int32) (_ : Unit) => r = 0) (fun _ => [(h0, .inr (10, [.ref b0, .ref b1, .int np, .int 1, .long hh])), (b0, .inl (G.2.1.2, 344, .inr (.inl S))), (b1, .inl (G.2.1.2, 1032, .inr (.inl P)))])) 0 0 := by
  refine sw_start (cc := cX10_differentialFor) (maxL := 4) (ret := some .int) (lv := [(0, .ref h0), (1, .long v)]) (own := RX10) (nm := "differentialFor") (by decide +kernel) rfl rfl rfl rfl (Nat.le_of_ble_eq_true rfl) (fun C F T => ?_)
  refine sw_lload_n (pc := 0) F dX10_differentialFor_0 rfl 1 rfl ?_
  refine sw_lconst (pc := 1) (v := 0) F dX10_differentialFor_1 rfl ?_
  refine sw_ldc2 (pc := 2) (v := 1000000000) F (List.mem_of_getElem? (i := 1) rfl) dX10_differentialFor_2 ?_
  refine sw_calli (pc := 5) (wr := [(h0, .inr (10, [.ref b0, .ref b1, .int np, .int th, .long hh])), (b0, .inl (G.2.1.2, 344, .inr (.inl S))), (b1, .inl (G.2.1.2, 1032, .inr (.inl P)))]) (k' := 0) (n' := 0) F (sw_runS (R := ({ frames := 1, cells := 0, slots := 0, locals := 25 } : Room)) (na := 3) F T.2.1 T.2.2.1 (k_X10_in l G v 0 1000000000) [] rfl (by decide) gX10_differentialFor_X10_in rfl rfl rfl (by decide +kernel) ⟨Nat.le_of_ble_eq_true rfl, Nat.le_of_ble_eq_true rfl⟩ rfl rfl (Nat.le_of_ble_eq_true rfl) dX10_differentialFor_5 (Nat.le_of_ble_eq_true rfl) (Nat.le_of_ble_eq_true rfl)) [] [0, 1, 2] rfl rfl (by decide) (by decide) rfl rfl (fun r_1 u_2 h_3 => ?_)
  have e_4 : r_1 = f_X10_in_r v 0 1000000000 := h_3
  refine sw_eq (ws' := [(h0, .inr (10, [.ref b0, .ref b1, .int np, .int th, .long hh])), (b0, .inl (G.2.1.2, 344, .inr (.inl S))), (b1, .inl (G.2.1.2, 1032, .inr (.inl P)))]) (lv' := [(0, .ref h0), (1, .long v)]) (st' := [.int r_1]) rfl rfl rfl ?_
  refine sw_if_ne (pc := 8) (tgt := 17) F dX10_differentialFor_8 (by decide) (fun c => absurd (by rw [e_4]; exact hf0) c) (fun _ => ?_)
  refine sw_aload_n (pc := 11) F dX10_differentialFor_11 rfl 0 rfl ?_
  refine sw_iconst (pc := 12) (v := 1) F dX10_differentialFor_12 rfl ?_
  refine sw_calli (pc := 13) (wr := []) (k' := 0) (n' := 0) F (sw_runV (R := ({ frames := 1, cells := 0, slots := 0, locals := 25 } : Room)) (q0 := 0) (na := 1) F T.2.1 T.2.2.1 (k_X10_fails l G h0 b0 b1 np th hh S P 1) [0, 1, 2] rfl (by decide) gX10_differentialFor_X10_fails rfl rfl rfl (by decide +kernel) ⟨Nat.le_of_ble_eq_true rfl, Nat.le_of_ble_eq_true rfl⟩ rfl rfl rfl rfl rfl (Nat.le_of_ble_eq_true rfl) dX10_differentialFor_13 (Nat.le_of_ble_eq_true rfl) (Nat.le_of_ble_eq_true rfl)) [0, 1, 2] [] rfl rfl (by decide) (by decide) rfl rfl (fun r_5 u_6 h_7 => ?_)
  have e_8 : r_5 = 0 := h_7
  refine sw_eqt (v := .int 0) (by rw [e_8]) ?_
  refine sw_eq (ws' := [(h0, .inr (10, [.ref b0, .ref b1, .int np, .int 1, .long hh])), (b0, .inl (G.2.1.2, 344, .inr (.inl S))), (b1, .inl (G.2.1.2, 1032, .inr (.inl P)))]) (lv' := [(0, .ref h0), (1, .long v)]) (st' := [.int 0]) rfl rfl rfl ?_
  subst e_4
  exact sw_iret (pc := 16) F T rfl rfl () rfl rfl dX10_differentialFor_16
set_option maxHeartbeats 4000000 in
set_option maxRecDepth 100000 in
theorem k_X10_undo_f1 (l : Launch) (G : sw_E) (h0 : Nat) (b0 : Nat) (b1 : Nat) (np : Int32) (th : Int32) (hh : Int64) (S : Nat → Int64) (P : Nat → Int64) (hz : np = 0) : sw_M l G yX10_undo wsX10_undo ({ frames := 1, cells := 0, slots := 0, locals := 21 } : Room) [.ref h0] [(h0, .inr (10, [.ref b0, .ref b1, .int np, .int th, .long hh])), (b0, .inl (G.2.1.2, 344, .inr (.inl S))), (b1, .inl (G.2.1.2, 1032, .inr (.inl P)))] (sw_QI G (S := Unit) (fun (r : Int32) (_ : Unit) => r = 0) (fun _ => [(h0, .inr (10, [.ref b0, .ref b1, .int np, .int 1, .long hh])), (b0, .inl (G.2.1.2, 344, .inr (.inl S))), (b1, .inl (G.2.1.2, 1032, .inr (.inl P)))])) 0 0 := by
  refine sw_start (cc := cX10_undo) (maxL := 2) (ret := some .int) (lv := [(0, .ref h0)]) (own := RX10) (nm := "undo") (by decide +kernel) rfl rfl rfl rfl (Nat.le_of_ble_eq_true rfl) (fun C F T => ?_)
  have in10 : ∀ w ∈ u_ws RX10 TX10 5, w ∈ wsX10_undo := fun w h => List.mem_cons_of_mem _ (List.mem_append_right _ (h))
  refine sw_aload_n (pc := 0) F dX10_undo_0 rfl 0 rfl ?_
  refine sw_get (pc := 1) (Cn := RX10) (T := TX10) (N := 5) (ci := 10) (v := .int np) F in10 0 rfl rfl 2 (by decide) rfl (List.mem_of_getElem? (i := 1) rfl) rfl dX10_undo_1 ?_
  refine sw_if_ne (pc := 4) (tgt := 13) F dX10_undo_4 (by decide) (fun c => absurd hz c) (fun _ => ?_)
  refine sw_aload_n (pc := 7) F dX10_undo_7 rfl 0 rfl ?_
  refine sw_iconst (pc := 8) (v := 1) F dX10_undo_8 rfl ?_
  refine sw_calli (pc := 9) (wr := []) (k' := 0) (n' := 0) F (sw_runV (R := ({ frames := 1, cells := 0, slots := 0, locals := 21 } : Room)) (q0 := 0) (na := 1) F T.2.1 T.2.2.1 (k_X10_fails l G h0 b0 b1 np th hh S P 1) [0, 1, 2] rfl (by decide) gX10_undo_X10_fails rfl rfl rfl (by decide +kernel) ⟨Nat.le_of_ble_eq_true rfl, Nat.le_of_ble_eq_true rfl⟩ rfl rfl rfl rfl rfl (Nat.le_of_ble_eq_true rfl) dX10_undo_9 (Nat.le_of_ble_eq_true rfl) (Nat.le_of_ble_eq_true rfl)) [0, 1, 2] [] rfl rfl (by decide) (by decide) rfl rfl (fun r_1 u_2 h_3 => ?_)
  have e_4 : r_1 = 0 := h_3
  refine sw_eqt (v := .int 0) (by rw [e_4]) ?_
  refine sw_eq (ws' := [(h0, .inr (10, [.ref b0, .ref b1, .int np, .int 1, .long hh])), (b0, .inl (G.2.1.2, 344, .inr (.inl S))), (b1, .inl (G.2.1.2, 1032, .inr (.inl P)))]) (lv' := [(0, .ref h0)]) (st' := [.int 0]) rfl rfl rfl ?_
  exact sw_iret (pc := 12) F T rfl rfl () rfl rfl dX10_undo_12
set_option maxHeartbeats 4000000 in
set_option maxRecDepth 100000 in
theorem k_X10_record_hour_f1 (l : Launch) (G : sw_E) (h0 : Nat) (b0 : Nat) (b1 : Nat) (np : Int32) (th : Int32) (hh : Int64) (S : Nat → Int64) (P : Nat → Int64) (i : Int32) (j : Int32) (hf0 : f_X10_in_r i.toInt64 0 (S 63 - 1) = 0) : sw_M l G yX10_record wsX10_record ({ frames := 1, cells := 0, slots := 0, locals := 25 } : Room) [.ref h0, .int 63, .int 7, .int i, .int j] [(h0, .inr (10, [.ref b0, .ref b1, .int np, .int th, .long hh])), (b0, .inl (G.2.1.2, 344, .inr (.inl S))), (b1, .inl (G.2.1.2, 1032, .inr (.inl P)))] (sw_QL G (S := Unit) (fun (r : Int64) (_ : Unit) => r = 0) (fun _ => [(h0, .inr (10, [.ref b0, .ref b1, .int np, .int 1, .long hh])), (b0, .inl (G.2.1.2, 344, .inr (.inl S))), (b1, .inl (G.2.1.2, 1032, .inr (.inl P)))])) 0 0 := by
  refine sw_start (cc := cX10_record) (maxL := 5) (ret := some .long) (lv := [(0, .ref h0), (1, .int 63), (2, .int 7), (3, .int i), (4, .int j)]) (own := RX10) (nm := "record") (by decide +kernel) rfl rfl rfl rfl (Nat.le_of_ble_eq_true rfl) (fun C F T => ?_)
  have in10 : ∀ w ∈ u_ws RX10 TX10 5, w ∈ wsX10_record := fun w h => List.mem_cons_of_mem _ (List.mem_append_right _ (h))
  refine sw_iload_n (pc := 0) F dX10_record_0 rfl 3 rfl ?_
  refine sw_i2l (pc := 1) F dX10_record_1 rfl ?_
  refine sw_lconst (pc := 2) (v := 0) F dX10_record_2 rfl ?_
  refine sw_aload_n (pc := 3) F dX10_record_3 rfl 0 rfl ?_
  refine sw_get (pc := 4) (Cn := RX10) (T := TX10) (N := 5) (ci := 10) (v := .ref b0) F in10 0 rfl rfl 0 (by decide) rfl (List.mem_of_getElem? (i := 1) rfl) rfl dX10_record_4 ?_
  refine sw_iload_n (pc := 7) F dX10_record_7 rfl 1 rfl ?_
  refine sw_lald (pc := 8) F 1 rfl (sw_in rfl) dX10_record_8 ?_
  refine sw_naml (e := S 63) rfl (fun x_1 ex_1 => ?_)
  refine sw_lconst (pc := 9) (v := 1) F dX10_record_9 rfl ?_
  refine sw_lsub (pc := 10) F dX10_record_10 ?_
  refine sw_topl (fun x_2 ex_2 => ?_)
  refine sw_calli (pc := 11) (wr := [(h0, .inr (10, [.ref b0, .ref b1, .int np, .int th, .long hh])), (b0, .inl (G.2.1.2, 344, .inr (.inl S))), (b1, .inl (G.2.1.2, 1032, .inr (.inl P)))]) (k' := 0) (n' := 0) F (sw_runS (R := ({ frames := 1, cells := 0, slots := 0, locals := 25 } : Room)) (na := 3) F T.2.1 T.2.2.1 (k_X10_in l G i.toInt64 0 x_2) [] rfl (by decide) gX10_record_X10_in rfl rfl rfl (by decide +kernel) ⟨Nat.le_of_ble_eq_true rfl, Nat.le_of_ble_eq_true rfl⟩ rfl rfl (Nat.le_of_ble_eq_true rfl) dX10_record_11 (Nat.le_of_ble_eq_true rfl) (Nat.le_of_ble_eq_true rfl)) [] [0, 1, 2] rfl rfl (by decide) (by decide) rfl rfl (fun r_3 u_4 h_5 => ?_)
  have e_6 : r_3 = f_X10_in_r i.toInt64 0 x_2 := h_5
  refine sw_eq (ws' := [(h0, .inr (10, [.ref b0, .ref b1, .int np, .int th, .long hh])), (b0, .inl (G.2.1.2, 344, .inr (.inl S))), (b1, .inl (G.2.1.2, 1032, .inr (.inl P)))]) (lv' := [(0, .ref h0), (1, .int 63), (2, .int 7), (3, .int i), (4, .int j)]) (st' := [.int r_3]) rfl rfl rfl ?_
  refine sw_if_ne (pc := 14) (tgt := 24) F dX10_record_14 (by decide) (fun c => absurd (by rw [e_6]; exact (by subst_vars; exact hf0)) c) (fun _ => ?_)
  refine sw_aload_n (pc := 17) F dX10_record_17 rfl 0 rfl ?_
  refine sw_iconst (pc := 18) (v := 1) F dX10_record_18 rfl ?_
  refine sw_calli (pc := 19) (wr := []) (k' := 0) (n' := 0) F (sw_runV (R := ({ frames := 1, cells := 0, slots := 0, locals := 25 } : Room)) (q0 := 0) (na := 1) F T.2.1 T.2.2.1 (k_X10_fails l G h0 b0 b1 np th hh S P 1) [0, 1, 2] rfl (by decide) gX10_record_X10_fails rfl rfl rfl (by decide +kernel) ⟨Nat.le_of_ble_eq_true rfl, Nat.le_of_ble_eq_true rfl⟩ rfl rfl rfl rfl rfl (Nat.le_of_ble_eq_true rfl) dX10_record_19 (Nat.le_of_ble_eq_true rfl) (Nat.le_of_ble_eq_true rfl)) [0, 1, 2] [] rfl rfl (by decide) (by decide) rfl rfl (fun r_7 u_8 h_9 => ?_)
  have e_10 : r_7 = 0 := h_9
  refine sw_eqt (v := .int 0) (by rw [e_10]) ?_
  refine sw_eq (ws' := [(h0, .inr (10, [.ref b0, .ref b1, .int np, .int 1, .long hh])), (b0, .inl (G.2.1.2, 344, .inr (.inl S))), (b1, .inl (G.2.1.2, 1032, .inr (.inl P)))]) (lv' := [(0, .ref h0), (1, .int 63), (2, .int 7), (3, .int i), (4, .int j)]) (st' := [.int 0]) rfl rfl rfl ?_
  refine sw_i2l (pc := 22) (v := 0) F dX10_record_22 rfl ?_
  subst e_6
  subst ex_2
  subst ex_1
  exact sw_lret (pc := 23) F T () rfl rfl dX10_record_23
set_option maxHeartbeats 4000000 in
set_option maxRecDepth 100000 in
theorem k_X10_hour_f1 (l : Launch) (G : sw_E) (h0 : Nat) (b0 : Nat) (b1 : Nat) (np : Int32) (th : Int32) (hh : Int64) (S : Nat → Int64) (P : Nat → Int64) (i : Int32) (j : Int32) (hf0 : f_X10_in_r i.toInt64 0 (S 63 - 1) = 0) : sw_M l G yX10_hour wsX10_hour ({ frames := 2, cells := 0, slots := 0, locals := 49 } : Room) [.ref h0, .int i, .int j] [(h0, .inr (10, [.ref b0, .ref b1, .int np, .int th, .long hh])), (b0, .inl (G.2.1.2, 344, .inr (.inl S))), (b1, .inl (G.2.1.2, 1032, .inr (.inl P)))] (sw_QL G (S := Unit) (fun (r : Int64) (_ : Unit) => r = 0) (fun _ => [(h0, .inr (10, [.ref b0, .ref b1, .int np, .int 1, .long hh])), (b0, .inl (G.2.1.2, 344, .inr (.inl S))), (b1, .inl (G.2.1.2, 1032, .inr (.inl P)))])) 0 0 := by
  refine sw_start (cc := cX10_hour) (maxL := 3) (ret := some .long) (lv := [(0, .ref h0), (1, .int i), (2, .int j)]) (own := RX10) (nm := "hour") (by decide +kernel) rfl rfl rfl rfl (Nat.le_of_ble_eq_true rfl) (fun C F T => ?_)
  refine sw_aload_n (pc := 0) F dX10_hour_0 rfl 0 rfl ?_
  refine sw_bipush (pc := 1) (v := 63) F dX10_hour_1 rfl ?_
  refine sw_bipush (pc := 3) (v := 7) F dX10_hour_3 rfl ?_
  refine sw_iload_n (pc := 5) F dX10_hour_5 rfl 1 rfl ?_
  refine sw_iload_n (pc := 6) F dX10_hour_6 rfl 2 rfl ?_
  refine sw_calll (pc := 7) (wr := []) (k' := 0) (n' := 0) F (sw_runV (R := ({ frames := 2, cells := 0, slots := 0, locals := 49 } : Room)) (q0 := 0) (na := 4) F T.2.1 T.2.2.1 (k_X10_record_hour_f1 l G h0 b0 b1 np th hh S P i j (by assumption)) [0, 1, 2] rfl (by decide) gX10_hour_X10_record rfl rfl rfl (by decide +kernel) ⟨Nat.le_of_ble_eq_true rfl, Nat.le_of_ble_eq_true rfl⟩ rfl rfl rfl rfl rfl (Nat.le_of_ble_eq_true rfl) dX10_hour_7 (Nat.le_of_ble_eq_true rfl) (Nat.le_of_ble_eq_true rfl)) [0, 1, 2] [] rfl rfl (by decide) (by decide) rfl rfl (fun r_1 u_2 h_3 => ?_)
  have e_4 : r_1 = 0 := h_3
  refine sw_eqt (v := .long 0) (by rw [e_4]) ?_
  refine sw_eq (ws' := [(h0, .inr (10, [.ref b0, .ref b1, .int np, .int 1, .long hh])), (b0, .inl (G.2.1.2, 344, .inr (.inl S))), (b1, .inl (G.2.1.2, 1032, .inr (.inl P)))]) (lv' := [(0, .ref h0), (1, .int i), (2, .int j)]) (st' := [.long 0]) rfl rfl rfl ?_
  exact sw_lret (pc := 10) F T () rfl rfl dX10_hour_10
set_option maxHeartbeats 4000000 in
set_option maxRecDepth 100000 in
theorem k_X10_record_hour_f2 (l : Launch) (G : sw_E) (h0 : Nat) (b0 : Nat) (b1 : Nat) (np : Int32) (th : Int32) (hh : Int64) (S : Nat → Int64) (P : Nat → Int64) (i : Int32) (j : Int32) (hf0 : ¬ f_X10_in_r i.toInt64 0 (S 63 - 1) = 0) (hf1 : f_X10_in_r j.toInt64 0 6 = 0) : sw_M l G yX10_record wsX10_record ({ frames := 1, cells := 0, slots := 0, locals := 25 } : Room) [.ref h0, .int 63, .int 7, .int i, .int j] [(h0, .inr (10, [.ref b0, .ref b1, .int np, .int th, .long hh])), (b0, .inl (G.2.1.2, 344, .inr (.inl S))), (b1, .inl (G.2.1.2, 1032, .inr (.inl P)))] (sw_QL G (S := Unit) (fun (r : Int64) (_ : Unit) => r = 0) (fun _ => [(h0, .inr (10, [.ref b0, .ref b1, .int np, .int 2, .long hh])), (b0, .inl (G.2.1.2, 344, .inr (.inl S))), (b1, .inl (G.2.1.2, 1032, .inr (.inl P)))])) 0 0 := by
  refine sw_start (cc := cX10_record) (maxL := 5) (ret := some .long) (lv := [(0, .ref h0), (1, .int 63), (2, .int 7), (3, .int i), (4, .int j)]) (own := RX10) (nm := "record") (by decide +kernel) rfl rfl rfl rfl (Nat.le_of_ble_eq_true rfl) (fun C F T => ?_)
  have in10 : ∀ w ∈ u_ws RX10 TX10 5, w ∈ wsX10_record := fun w h => List.mem_cons_of_mem _ (List.mem_append_right _ (h))
  refine sw_iload_n (pc := 0) F dX10_record_0 rfl 3 rfl ?_
  refine sw_i2l (pc := 1) F dX10_record_1 rfl ?_
  refine sw_lconst (pc := 2) (v := 0) F dX10_record_2 rfl ?_
  refine sw_aload_n (pc := 3) F dX10_record_3 rfl 0 rfl ?_
  refine sw_get (pc := 4) (Cn := RX10) (T := TX10) (N := 5) (ci := 10) (v := .ref b0) F in10 0 rfl rfl 0 (by decide) rfl (List.mem_of_getElem? (i := 1) rfl) rfl dX10_record_4 ?_
  refine sw_iload_n (pc := 7) F dX10_record_7 rfl 1 rfl ?_
  refine sw_lald (pc := 8) F 1 rfl (sw_in rfl) dX10_record_8 ?_
  refine sw_naml (e := S 63) rfl (fun x_1 ex_1 => ?_)
  refine sw_lconst (pc := 9) (v := 1) F dX10_record_9 rfl ?_
  refine sw_lsub (pc := 10) F dX10_record_10 ?_
  refine sw_topl (fun x_2 ex_2 => ?_)
  refine sw_calli (pc := 11) (wr := [(h0, .inr (10, [.ref b0, .ref b1, .int np, .int th, .long hh])), (b0, .inl (G.2.1.2, 344, .inr (.inl S))), (b1, .inl (G.2.1.2, 1032, .inr (.inl P)))]) (k' := 0) (n' := 0) F (sw_runS (R := ({ frames := 1, cells := 0, slots := 0, locals := 25 } : Room)) (na := 3) F T.2.1 T.2.2.1 (k_X10_in l G i.toInt64 0 x_2) [] rfl (by decide) gX10_record_X10_in rfl rfl rfl (by decide +kernel) ⟨Nat.le_of_ble_eq_true rfl, Nat.le_of_ble_eq_true rfl⟩ rfl rfl (Nat.le_of_ble_eq_true rfl) dX10_record_11 (Nat.le_of_ble_eq_true rfl) (Nat.le_of_ble_eq_true rfl)) [] [0, 1, 2] rfl rfl (by decide) (by decide) rfl rfl (fun r_3 u_4 h_5 => ?_)
  have e_6 : r_3 = f_X10_in_r i.toInt64 0 x_2 := h_5
  refine sw_eq (ws' := [(h0, .inr (10, [.ref b0, .ref b1, .int np, .int th, .long hh])), (b0, .inl (G.2.1.2, 344, .inr (.inl S))), (b1, .inl (G.2.1.2, 1032, .inr (.inl P)))]) (lv' := [(0, .ref h0), (1, .int 63), (2, .int 7), (3, .int i), (4, .int j)]) (st' := [.int r_3]) rfl rfl rfl ?_
  refine sw_if_ne (pc := 14) (tgt := 24) F dX10_record_14 (by decide) (fun _ => ?_) (fun c => absurd c (by rw [e_6]; exact (by subst_vars; exact hf0)))
  refine sw_iload (pc := 24) F dX10_record_24 4 rfl ?_
  refine sw_i2l (pc := 26) F dX10_record_26 rfl ?_
  refine sw_lconst (pc := 27) (v := 0) F dX10_record_27 rfl ?_
  refine sw_iload_n (pc := 28) F dX10_record_28 rfl 2 rfl ?_
  refine sw_iconst (pc := 29) (v := 1) F dX10_record_29 rfl ?_
  refine sw_isub (pc := 30) F dX10_record_30 ?_
  refine sw_eqt (v := .int 6) (by rfl) ?_
  refine sw_i2l (pc := 31) (v := 6) F dX10_record_31 rfl ?_
  refine sw_calli (pc := 32) (wr := [(h0, .inr (10, [.ref b0, .ref b1, .int np, .int th, .long hh])), (b0, .inl (G.2.1.2, 344, .inr (.inl S))), (b1, .inl (G.2.1.2, 1032, .inr (.inl P)))]) (k' := 0) (n' := 0) F (sw_runS (R := ({ frames := 1, cells := 0, slots := 0, locals := 25 } : Room)) (na := 3) F T.2.1 T.2.2.1 (k_X10_in l G j.toInt64 0 6) [] rfl (by decide) gX10_record_X10_in rfl rfl rfl (by decide +kernel) ⟨Nat.le_of_ble_eq_true rfl, Nat.le_of_ble_eq_true rfl⟩ rfl rfl (Nat.le_of_ble_eq_true rfl) dX10_record_32 (Nat.le_of_ble_eq_true rfl) (Nat.le_of_ble_eq_true rfl)) [] [0, 1, 2] rfl rfl (by decide) (by decide) rfl rfl (fun r_7 u_8 h_9 => ?_)
  have e_10 : r_7 = f_X10_in_r j.toInt64 0 6 := h_9
  refine sw_eq (ws' := [(h0, .inr (10, [.ref b0, .ref b1, .int np, .int th, .long hh])), (b0, .inl (G.2.1.2, 344, .inr (.inl S))), (b1, .inl (G.2.1.2, 1032, .inr (.inl P)))]) (lv' := [(0, .ref h0), (1, .int 63), (2, .int 7), (3, .int i), (4, .int j)]) (st' := [.int r_7]) rfl rfl rfl ?_
  refine sw_if_ne (pc := 35) (tgt := 45) F dX10_record_35 (by decide) (fun c => absurd (by rw [e_10]; exact (by subst_vars; exact hf1)) c) (fun _ => ?_)
  refine sw_aload_n (pc := 38) F dX10_record_38 rfl 0 rfl ?_
  refine sw_iconst (pc := 39) (v := 2) F dX10_record_39 rfl ?_
  refine sw_calli (pc := 40) (wr := []) (k' := 0) (n' := 0) F (sw_runV (R := ({ frames := 1, cells := 0, slots := 0, locals := 25 } : Room)) (q0 := 0) (na := 1) F T.2.1 T.2.2.1 (k_X10_fails l G h0 b0 b1 np th hh S P 2) [0, 1, 2] rfl (by decide) gX10_record_X10_fails rfl rfl rfl (by decide +kernel) ⟨Nat.le_of_ble_eq_true rfl, Nat.le_of_ble_eq_true rfl⟩ rfl rfl rfl rfl rfl (Nat.le_of_ble_eq_true rfl) dX10_record_40 (Nat.le_of_ble_eq_true rfl) (Nat.le_of_ble_eq_true rfl)) [0, 1, 2] [] rfl rfl (by decide) (by decide) rfl rfl (fun r_11 u_12 h_13 => ?_)
  have e_14 : r_11 = 0 := h_13
  refine sw_eqt (v := .int 0) (by rw [e_14]) ?_
  refine sw_eq (ws' := [(h0, .inr (10, [.ref b0, .ref b1, .int np, .int 2, .long hh])), (b0, .inl (G.2.1.2, 344, .inr (.inl S))), (b1, .inl (G.2.1.2, 1032, .inr (.inl P)))]) (lv' := [(0, .ref h0), (1, .int 63), (2, .int 7), (3, .int i), (4, .int j)]) (st' := [.int 0]) rfl rfl rfl ?_
  refine sw_i2l (pc := 43) (v := 0) F dX10_record_43 rfl ?_
  subst e_10
  subst e_6
  subst ex_2
  subst ex_1
  exact sw_lret (pc := 44) F T () rfl rfl dX10_record_44
set_option maxHeartbeats 4000000 in
set_option maxRecDepth 100000 in
theorem k_X10_hour_f2 (l : Launch) (G : sw_E) (h0 : Nat) (b0 : Nat) (b1 : Nat) (np : Int32) (th : Int32) (hh : Int64) (S : Nat → Int64) (P : Nat → Int64) (i : Int32) (j : Int32) (hf0 : ¬ f_X10_in_r i.toInt64 0 (S 63 - 1) = 0) (hf1 : f_X10_in_r j.toInt64 0 6 = 0) : sw_M l G yX10_hour wsX10_hour ({ frames := 2, cells := 0, slots := 0, locals := 49 } : Room) [.ref h0, .int i, .int j] [(h0, .inr (10, [.ref b0, .ref b1, .int np, .int th, .long hh])), (b0, .inl (G.2.1.2, 344, .inr (.inl S))), (b1, .inl (G.2.1.2, 1032, .inr (.inl P)))] (sw_QL G (S := Unit) (fun (r : Int64) (_ : Unit) => r = 0) (fun _ => [(h0, .inr (10, [.ref b0, .ref b1, .int np, .int 2, .long hh])), (b0, .inl (G.2.1.2, 344, .inr (.inl S))), (b1, .inl (G.2.1.2, 1032, .inr (.inl P)))])) 0 0 := by
  refine sw_start (cc := cX10_hour) (maxL := 3) (ret := some .long) (lv := [(0, .ref h0), (1, .int i), (2, .int j)]) (own := RX10) (nm := "hour") (by decide +kernel) rfl rfl rfl rfl (Nat.le_of_ble_eq_true rfl) (fun C F T => ?_)
  refine sw_aload_n (pc := 0) F dX10_hour_0 rfl 0 rfl ?_
  refine sw_bipush (pc := 1) (v := 63) F dX10_hour_1 rfl ?_
  refine sw_bipush (pc := 3) (v := 7) F dX10_hour_3 rfl ?_
  refine sw_iload_n (pc := 5) F dX10_hour_5 rfl 1 rfl ?_
  refine sw_iload_n (pc := 6) F dX10_hour_6 rfl 2 rfl ?_
  refine sw_calll (pc := 7) (wr := []) (k' := 0) (n' := 0) F (sw_runV (R := ({ frames := 2, cells := 0, slots := 0, locals := 49 } : Room)) (q0 := 0) (na := 4) F T.2.1 T.2.2.1 (k_X10_record_hour_f2 l G h0 b0 b1 np th hh S P i j (by assumption) (by assumption)) [0, 1, 2] rfl (by decide) gX10_hour_X10_record rfl rfl rfl (by decide +kernel) ⟨Nat.le_of_ble_eq_true rfl, Nat.le_of_ble_eq_true rfl⟩ rfl rfl rfl rfl rfl (Nat.le_of_ble_eq_true rfl) dX10_hour_7 (Nat.le_of_ble_eq_true rfl) (Nat.le_of_ble_eq_true rfl)) [0, 1, 2] [] rfl rfl (by decide) (by decide) rfl rfl (fun r_1 u_2 h_3 => ?_)
  have e_4 : r_1 = 0 := h_3
  refine sw_eqt (v := .long 0) (by rw [e_4]) ?_
  refine sw_eq (ws' := [(h0, .inr (10, [.ref b0, .ref b1, .int np, .int 2, .long hh])), (b0, .inl (G.2.1.2, 344, .inr (.inl S))), (b1, .inl (G.2.1.2, 1032, .inr (.inl P)))]) (lv' := [(0, .ref h0), (1, .int i), (2, .int j)]) (st' := [.long 0]) rfl rfl rfl ?_
  exact sw_lret (pc := 10) F T () rfl rfl dX10_hour_10
set_option maxHeartbeats 4000000 in
set_option maxRecDepth 100000 in
theorem k_X10_record_day_f1 (l : Launch) (G : sw_E) (h0 : Nat) (b0 : Nat) (b1 : Nat) (np : Int32) (th : Int32) (hh : Int64) (S : Nat → Int64) (P : Nat → Int64) (i : Int32) (j : Int32) (hf0 : f_X10_in_r i.toInt64 0 (S 232 - 1) = 0) : sw_M l G yX10_record wsX10_record ({ frames := 1, cells := 0, slots := 0, locals := 25 } : Room) [.ref h0, .int 232, .int 4, .int i, .int j] [(h0, .inr (10, [.ref b0, .ref b1, .int np, .int th, .long hh])), (b0, .inl (G.2.1.2, 344, .inr (.inl S))), (b1, .inl (G.2.1.2, 1032, .inr (.inl P)))] (sw_QL G (S := Unit) (fun (r : Int64) (_ : Unit) => r = 0) (fun _ => [(h0, .inr (10, [.ref b0, .ref b1, .int np, .int 1, .long hh])), (b0, .inl (G.2.1.2, 344, .inr (.inl S))), (b1, .inl (G.2.1.2, 1032, .inr (.inl P)))])) 0 0 := by
  refine sw_start (cc := cX10_record) (maxL := 5) (ret := some .long) (lv := [(0, .ref h0), (1, .int 232), (2, .int 4), (3, .int i), (4, .int j)]) (own := RX10) (nm := "record") (by decide +kernel) rfl rfl rfl rfl (Nat.le_of_ble_eq_true rfl) (fun C F T => ?_)
  have in10 : ∀ w ∈ u_ws RX10 TX10 5, w ∈ wsX10_record := fun w h => List.mem_cons_of_mem _ (List.mem_append_right _ (h))
  refine sw_iload_n (pc := 0) F dX10_record_0 rfl 3 rfl ?_
  refine sw_i2l (pc := 1) F dX10_record_1 rfl ?_
  refine sw_lconst (pc := 2) (v := 0) F dX10_record_2 rfl ?_
  refine sw_aload_n (pc := 3) F dX10_record_3 rfl 0 rfl ?_
  refine sw_get (pc := 4) (Cn := RX10) (T := TX10) (N := 5) (ci := 10) (v := .ref b0) F in10 0 rfl rfl 0 (by decide) rfl (List.mem_of_getElem? (i := 1) rfl) rfl dX10_record_4 ?_
  refine sw_iload_n (pc := 7) F dX10_record_7 rfl 1 rfl ?_
  refine sw_lald (pc := 8) F 1 rfl (sw_in rfl) dX10_record_8 ?_
  refine sw_naml (e := S 232) rfl (fun x_1 ex_1 => ?_)
  refine sw_lconst (pc := 9) (v := 1) F dX10_record_9 rfl ?_
  refine sw_lsub (pc := 10) F dX10_record_10 ?_
  refine sw_topl (fun x_2 ex_2 => ?_)
  refine sw_calli (pc := 11) (wr := [(h0, .inr (10, [.ref b0, .ref b1, .int np, .int th, .long hh])), (b0, .inl (G.2.1.2, 344, .inr (.inl S))), (b1, .inl (G.2.1.2, 1032, .inr (.inl P)))]) (k' := 0) (n' := 0) F (sw_runS (R := ({ frames := 1, cells := 0, slots := 0, locals := 25 } : Room)) (na := 3) F T.2.1 T.2.2.1 (k_X10_in l G i.toInt64 0 x_2) [] rfl (by decide) gX10_record_X10_in rfl rfl rfl (by decide +kernel) ⟨Nat.le_of_ble_eq_true rfl, Nat.le_of_ble_eq_true rfl⟩ rfl rfl (Nat.le_of_ble_eq_true rfl) dX10_record_11 (Nat.le_of_ble_eq_true rfl) (Nat.le_of_ble_eq_true rfl)) [] [0, 1, 2] rfl rfl (by decide) (by decide) rfl rfl (fun r_3 u_4 h_5 => ?_)
  have e_6 : r_3 = f_X10_in_r i.toInt64 0 x_2 := h_5
  refine sw_eq (ws' := [(h0, .inr (10, [.ref b0, .ref b1, .int np, .int th, .long hh])), (b0, .inl (G.2.1.2, 344, .inr (.inl S))), (b1, .inl (G.2.1.2, 1032, .inr (.inl P)))]) (lv' := [(0, .ref h0), (1, .int 232), (2, .int 4), (3, .int i), (4, .int j)]) (st' := [.int r_3]) rfl rfl rfl ?_
  refine sw_if_ne (pc := 14) (tgt := 24) F dX10_record_14 (by decide) (fun c => absurd (by rw [e_6]; exact (by subst_vars; exact hf0)) c) (fun _ => ?_)
  refine sw_aload_n (pc := 17) F dX10_record_17 rfl 0 rfl ?_
  refine sw_iconst (pc := 18) (v := 1) F dX10_record_18 rfl ?_
  refine sw_calli (pc := 19) (wr := []) (k' := 0) (n' := 0) F (sw_runV (R := ({ frames := 1, cells := 0, slots := 0, locals := 25 } : Room)) (q0 := 0) (na := 1) F T.2.1 T.2.2.1 (k_X10_fails l G h0 b0 b1 np th hh S P 1) [0, 1, 2] rfl (by decide) gX10_record_X10_fails rfl rfl rfl (by decide +kernel) ⟨Nat.le_of_ble_eq_true rfl, Nat.le_of_ble_eq_true rfl⟩ rfl rfl rfl rfl rfl (Nat.le_of_ble_eq_true rfl) dX10_record_19 (Nat.le_of_ble_eq_true rfl) (Nat.le_of_ble_eq_true rfl)) [0, 1, 2] [] rfl rfl (by decide) (by decide) rfl rfl (fun r_7 u_8 h_9 => ?_)
  have e_10 : r_7 = 0 := h_9
  refine sw_eqt (v := .int 0) (by rw [e_10]) ?_
  refine sw_eq (ws' := [(h0, .inr (10, [.ref b0, .ref b1, .int np, .int 1, .long hh])), (b0, .inl (G.2.1.2, 344, .inr (.inl S))), (b1, .inl (G.2.1.2, 1032, .inr (.inl P)))]) (lv' := [(0, .ref h0), (1, .int 232), (2, .int 4), (3, .int i), (4, .int j)]) (st' := [.int 0]) rfl rfl rfl ?_
  refine sw_i2l (pc := 22) (v := 0) F dX10_record_22 rfl ?_
  subst e_6
  subst ex_2
  subst ex_1
  exact sw_lret (pc := 23) F T () rfl rfl dX10_record_23
set_option maxHeartbeats 4000000 in
set_option maxRecDepth 100000 in
theorem k_X10_day_f1 (l : Launch) (G : sw_E) (h0 : Nat) (b0 : Nat) (b1 : Nat) (np : Int32) (th : Int32) (hh : Int64) (S : Nat → Int64) (P : Nat → Int64) (i : Int32) (j : Int32) (hf0 : f_X10_in_r i.toInt64 0 (S 232 - 1) = 0) : sw_M l G yX10_day wsX10_day ({ frames := 2, cells := 0, slots := 0, locals := 49 } : Room) [.ref h0, .int i, .int j] [(h0, .inr (10, [.ref b0, .ref b1, .int np, .int th, .long hh])), (b0, .inl (G.2.1.2, 344, .inr (.inl S))), (b1, .inl (G.2.1.2, 1032, .inr (.inl P)))] (sw_QL G (S := Unit) (fun (r : Int64) (_ : Unit) => r = 0) (fun _ => [(h0, .inr (10, [.ref b0, .ref b1, .int np, .int 1, .long hh])), (b0, .inl (G.2.1.2, 344, .inr (.inl S))), (b1, .inl (G.2.1.2, 1032, .inr (.inl P)))])) 0 0 := by
  refine sw_start (cc := cX10_day) (maxL := 3) (ret := some .long) (lv := [(0, .ref h0), (1, .int i), (2, .int j)]) (own := RX10) (nm := "day") (by decide +kernel) rfl rfl rfl rfl (Nat.le_of_ble_eq_true rfl) (fun C F T => ?_)
  refine sw_aload_n (pc := 0) F dX10_day_0 rfl 0 rfl ?_
  refine sw_sipush (pc := 1) (v := 232) F dX10_day_1 rfl ?_
  refine sw_iconst (pc := 4) (v := 4) F dX10_day_4 rfl ?_
  refine sw_iload_n (pc := 5) F dX10_day_5 rfl 1 rfl ?_
  refine sw_iload_n (pc := 6) F dX10_day_6 rfl 2 rfl ?_
  refine sw_calll (pc := 7) (wr := []) (k' := 0) (n' := 0) F (sw_runV (R := ({ frames := 2, cells := 0, slots := 0, locals := 49 } : Room)) (q0 := 0) (na := 4) F T.2.1 T.2.2.1 (k_X10_record_day_f1 l G h0 b0 b1 np th hh S P i j (by assumption)) [0, 1, 2] rfl (by decide) gX10_day_X10_record rfl rfl rfl (by decide +kernel) ⟨Nat.le_of_ble_eq_true rfl, Nat.le_of_ble_eq_true rfl⟩ rfl rfl rfl rfl rfl (Nat.le_of_ble_eq_true rfl) dX10_day_7 (Nat.le_of_ble_eq_true rfl) (Nat.le_of_ble_eq_true rfl)) [0, 1, 2] [] rfl rfl (by decide) (by decide) rfl rfl (fun r_1 u_2 h_3 => ?_)
  have e_4 : r_1 = 0 := h_3
  refine sw_eqt (v := .long 0) (by rw [e_4]) ?_
  refine sw_eq (ws' := [(h0, .inr (10, [.ref b0, .ref b1, .int np, .int 1, .long hh])), (b0, .inl (G.2.1.2, 344, .inr (.inl S))), (b1, .inl (G.2.1.2, 1032, .inr (.inl P)))]) (lv' := [(0, .ref h0), (1, .int i), (2, .int j)]) (st' := [.long 0]) rfl rfl rfl ?_
  exact sw_lret (pc := 10) F T () rfl rfl dX10_day_10
set_option maxHeartbeats 4000000 in
set_option maxRecDepth 100000 in
theorem k_X10_record_day_f2 (l : Launch) (G : sw_E) (h0 : Nat) (b0 : Nat) (b1 : Nat) (np : Int32) (th : Int32) (hh : Int64) (S : Nat → Int64) (P : Nat → Int64) (i : Int32) (j : Int32) (hf0 : ¬ f_X10_in_r i.toInt64 0 (S 232 - 1) = 0) (hf1 : f_X10_in_r j.toInt64 0 3 = 0) : sw_M l G yX10_record wsX10_record ({ frames := 1, cells := 0, slots := 0, locals := 25 } : Room) [.ref h0, .int 232, .int 4, .int i, .int j] [(h0, .inr (10, [.ref b0, .ref b1, .int np, .int th, .long hh])), (b0, .inl (G.2.1.2, 344, .inr (.inl S))), (b1, .inl (G.2.1.2, 1032, .inr (.inl P)))] (sw_QL G (S := Unit) (fun (r : Int64) (_ : Unit) => r = 0) (fun _ => [(h0, .inr (10, [.ref b0, .ref b1, .int np, .int 2, .long hh])), (b0, .inl (G.2.1.2, 344, .inr (.inl S))), (b1, .inl (G.2.1.2, 1032, .inr (.inl P)))])) 0 0 := by
  refine sw_start (cc := cX10_record) (maxL := 5) (ret := some .long) (lv := [(0, .ref h0), (1, .int 232), (2, .int 4), (3, .int i), (4, .int j)]) (own := RX10) (nm := "record") (by decide +kernel) rfl rfl rfl rfl (Nat.le_of_ble_eq_true rfl) (fun C F T => ?_)
  have in10 : ∀ w ∈ u_ws RX10 TX10 5, w ∈ wsX10_record := fun w h => List.mem_cons_of_mem _ (List.mem_append_right _ (h))
  refine sw_iload_n (pc := 0) F dX10_record_0 rfl 3 rfl ?_
  refine sw_i2l (pc := 1) F dX10_record_1 rfl ?_
  refine sw_lconst (pc := 2) (v := 0) F dX10_record_2 rfl ?_
  refine sw_aload_n (pc := 3) F dX10_record_3 rfl 0 rfl ?_
  refine sw_get (pc := 4) (Cn := RX10) (T := TX10) (N := 5) (ci := 10) (v := .ref b0) F in10 0 rfl rfl 0 (by decide) rfl (List.mem_of_getElem? (i := 1) rfl) rfl dX10_record_4 ?_
  refine sw_iload_n (pc := 7) F dX10_record_7 rfl 1 rfl ?_
  refine sw_lald (pc := 8) F 1 rfl (sw_in rfl) dX10_record_8 ?_
  refine sw_naml (e := S 232) rfl (fun x_1 ex_1 => ?_)
  refine sw_lconst (pc := 9) (v := 1) F dX10_record_9 rfl ?_
  refine sw_lsub (pc := 10) F dX10_record_10 ?_
  refine sw_topl (fun x_2 ex_2 => ?_)
  refine sw_calli (pc := 11) (wr := [(h0, .inr (10, [.ref b0, .ref b1, .int np, .int th, .long hh])), (b0, .inl (G.2.1.2, 344, .inr (.inl S))), (b1, .inl (G.2.1.2, 1032, .inr (.inl P)))]) (k' := 0) (n' := 0) F (sw_runS (R := ({ frames := 1, cells := 0, slots := 0, locals := 25 } : Room)) (na := 3) F T.2.1 T.2.2.1 (k_X10_in l G i.toInt64 0 x_2) [] rfl (by decide) gX10_record_X10_in rfl rfl rfl (by decide +kernel) ⟨Nat.le_of_ble_eq_true rfl, Nat.le_of_ble_eq_true rfl⟩ rfl rfl (Nat.le_of_ble_eq_true rfl) dX10_record_11 (Nat.le_of_ble_eq_true rfl) (Nat.le_of_ble_eq_true rfl)) [] [0, 1, 2] rfl rfl (by decide) (by decide) rfl rfl (fun r_3 u_4 h_5 => ?_)
  have e_6 : r_3 = f_X10_in_r i.toInt64 0 x_2 := h_5
  refine sw_eq (ws' := [(h0, .inr (10, [.ref b0, .ref b1, .int np, .int th, .long hh])), (b0, .inl (G.2.1.2, 344, .inr (.inl S))), (b1, .inl (G.2.1.2, 1032, .inr (.inl P)))]) (lv' := [(0, .ref h0), (1, .int 232), (2, .int 4), (3, .int i), (4, .int j)]) (st' := [.int r_3]) rfl rfl rfl ?_
  refine sw_if_ne (pc := 14) (tgt := 24) F dX10_record_14 (by decide) (fun _ => ?_) (fun c => absurd c (by rw [e_6]; exact (by subst_vars; exact hf0)))
  refine sw_iload (pc := 24) F dX10_record_24 4 rfl ?_
  refine sw_i2l (pc := 26) F dX10_record_26 rfl ?_
  refine sw_lconst (pc := 27) (v := 0) F dX10_record_27 rfl ?_
  refine sw_iload_n (pc := 28) F dX10_record_28 rfl 2 rfl ?_
  refine sw_iconst (pc := 29) (v := 1) F dX10_record_29 rfl ?_
  refine sw_isub (pc := 30) F dX10_record_30 ?_
  refine sw_eqt (v := .int 3) (by rfl) ?_
  refine sw_i2l (pc := 31) (v := 3) F dX10_record_31 rfl ?_
  refine sw_calli (pc := 32) (wr := [(h0, .inr (10, [.ref b0, .ref b1, .int np, .int th, .long hh])), (b0, .inl (G.2.1.2, 344, .inr (.inl S))), (b1, .inl (G.2.1.2, 1032, .inr (.inl P)))]) (k' := 0) (n' := 0) F (sw_runS (R := ({ frames := 1, cells := 0, slots := 0, locals := 25 } : Room)) (na := 3) F T.2.1 T.2.2.1 (k_X10_in l G j.toInt64 0 3) [] rfl (by decide) gX10_record_X10_in rfl rfl rfl (by decide +kernel) ⟨Nat.le_of_ble_eq_true rfl, Nat.le_of_ble_eq_true rfl⟩ rfl rfl (Nat.le_of_ble_eq_true rfl) dX10_record_32 (Nat.le_of_ble_eq_true rfl) (Nat.le_of_ble_eq_true rfl)) [] [0, 1, 2] rfl rfl (by decide) (by decide) rfl rfl (fun r_7 u_8 h_9 => ?_)
  have e_10 : r_7 = f_X10_in_r j.toInt64 0 3 := h_9
  refine sw_eq (ws' := [(h0, .inr (10, [.ref b0, .ref b1, .int np, .int th, .long hh])), (b0, .inl (G.2.1.2, 344, .inr (.inl S))), (b1, .inl (G.2.1.2, 1032, .inr (.inl P)))]) (lv' := [(0, .ref h0), (1, .int 232), (2, .int 4), (3, .int i), (4, .int j)]) (st' := [.int r_7]) rfl rfl rfl ?_
  refine sw_if_ne (pc := 35) (tgt := 45) F dX10_record_35 (by decide) (fun c => absurd (by rw [e_10]; exact (by subst_vars; exact hf1)) c) (fun _ => ?_)
  refine sw_aload_n (pc := 38) F dX10_record_38 rfl 0 rfl ?_
  refine sw_iconst (pc := 39) (v := 2) F dX10_record_39 rfl ?_
  refine sw_calli (pc := 40) (wr := []) (k' := 0) (n' := 0) F (sw_runV (R := ({ frames := 1, cells := 0, slots := 0, locals := 25 } : Room)) (q0 := 0) (na := 1) F T.2.1 T.2.2.1 (k_X10_fails l G h0 b0 b1 np th hh S P 2) [0, 1, 2] rfl (by decide) gX10_record_X10_fails rfl rfl rfl (by decide +kernel) ⟨Nat.le_of_ble_eq_true rfl, Nat.le_of_ble_eq_true rfl⟩ rfl rfl rfl rfl rfl (Nat.le_of_ble_eq_true rfl) dX10_record_40 (Nat.le_of_ble_eq_true rfl) (Nat.le_of_ble_eq_true rfl)) [0, 1, 2] [] rfl rfl (by decide) (by decide) rfl rfl (fun r_11 u_12 h_13 => ?_)
  have e_14 : r_11 = 0 := h_13
  refine sw_eqt (v := .int 0) (by rw [e_14]) ?_
  refine sw_eq (ws' := [(h0, .inr (10, [.ref b0, .ref b1, .int np, .int 2, .long hh])), (b0, .inl (G.2.1.2, 344, .inr (.inl S))), (b1, .inl (G.2.1.2, 1032, .inr (.inl P)))]) (lv' := [(0, .ref h0), (1, .int 232), (2, .int 4), (3, .int i), (4, .int j)]) (st' := [.int 0]) rfl rfl rfl ?_
  refine sw_i2l (pc := 43) (v := 0) F dX10_record_43 rfl ?_
  subst e_10
  subst e_6
  subst ex_2
  subst ex_1
  exact sw_lret (pc := 44) F T () rfl rfl dX10_record_44
set_option maxHeartbeats 4000000 in
set_option maxRecDepth 100000 in
theorem k_X10_day_f2 (l : Launch) (G : sw_E) (h0 : Nat) (b0 : Nat) (b1 : Nat) (np : Int32) (th : Int32) (hh : Int64) (S : Nat → Int64) (P : Nat → Int64) (i : Int32) (j : Int32) (hf0 : ¬ f_X10_in_r i.toInt64 0 (S 232 - 1) = 0) (hf1 : f_X10_in_r j.toInt64 0 3 = 0) : sw_M l G yX10_day wsX10_day ({ frames := 2, cells := 0, slots := 0, locals := 49 } : Room) [.ref h0, .int i, .int j] [(h0, .inr (10, [.ref b0, .ref b1, .int np, .int th, .long hh])), (b0, .inl (G.2.1.2, 344, .inr (.inl S))), (b1, .inl (G.2.1.2, 1032, .inr (.inl P)))] (sw_QL G (S := Unit) (fun (r : Int64) (_ : Unit) => r = 0) (fun _ => [(h0, .inr (10, [.ref b0, .ref b1, .int np, .int 2, .long hh])), (b0, .inl (G.2.1.2, 344, .inr (.inl S))), (b1, .inl (G.2.1.2, 1032, .inr (.inl P)))])) 0 0 := by
  refine sw_start (cc := cX10_day) (maxL := 3) (ret := some .long) (lv := [(0, .ref h0), (1, .int i), (2, .int j)]) (own := RX10) (nm := "day") (by decide +kernel) rfl rfl rfl rfl (Nat.le_of_ble_eq_true rfl) (fun C F T => ?_)
  refine sw_aload_n (pc := 0) F dX10_day_0 rfl 0 rfl ?_
  refine sw_sipush (pc := 1) (v := 232) F dX10_day_1 rfl ?_
  refine sw_iconst (pc := 4) (v := 4) F dX10_day_4 rfl ?_
  refine sw_iload_n (pc := 5) F dX10_day_5 rfl 1 rfl ?_
  refine sw_iload_n (pc := 6) F dX10_day_6 rfl 2 rfl ?_
  refine sw_calll (pc := 7) (wr := []) (k' := 0) (n' := 0) F (sw_runV (R := ({ frames := 2, cells := 0, slots := 0, locals := 49 } : Room)) (q0 := 0) (na := 4) F T.2.1 T.2.2.1 (k_X10_record_day_f2 l G h0 b0 b1 np th hh S P i j (by assumption) (by assumption)) [0, 1, 2] rfl (by decide) gX10_day_X10_record rfl rfl rfl (by decide +kernel) ⟨Nat.le_of_ble_eq_true rfl, Nat.le_of_ble_eq_true rfl⟩ rfl rfl rfl rfl rfl (Nat.le_of_ble_eq_true rfl) dX10_day_7 (Nat.le_of_ble_eq_true rfl) (Nat.le_of_ble_eq_true rfl)) [0, 1, 2] [] rfl rfl (by decide) (by decide) rfl rfl (fun r_1 u_2 h_3 => ?_)
  have e_4 : r_1 = 0 := h_3
  refine sw_eqt (v := .long 0) (by rw [e_4]) ?_
  refine sw_eq (ws' := [(h0, .inr (10, [.ref b0, .ref b1, .int np, .int 2, .long hh])), (b0, .inl (G.2.1.2, 344, .inr (.inl S))), (b1, .inl (G.2.1.2, 1032, .inr (.inl P)))]) (lv' := [(0, .ref h0), (1, .int i), (2, .int j)]) (st' := [.long 0]) rfl rfl rfl ?_
  exact sw_lret (pc := 10) F T () rfl rfl dX10_day_10
set_option maxHeartbeats 4000000 in
set_option maxRecDepth 100000 in
theorem k_X10_record_event_f1 (l : Launch) (G : sw_E) (h0 : Nat) (b0 : Nat) (b1 : Nat) (np : Int32) (th : Int32) (hh : Int64) (S : Nat → Int64) (P : Nat → Int64) (i : Int32) (j : Int32) (hf0 : f_X10_in_r i.toInt64 0 (S 253 - 1) = 0) : sw_M l G yX10_record wsX10_record ({ frames := 1, cells := 0, slots := 0, locals := 25 } : Room) [.ref h0, .int 253, .int 3, .int i, .int j] [(h0, .inr (10, [.ref b0, .ref b1, .int np, .int th, .long hh])), (b0, .inl (G.2.1.2, 344, .inr (.inl S))), (b1, .inl (G.2.1.2, 1032, .inr (.inl P)))] (sw_QL G (S := Unit) (fun (r : Int64) (_ : Unit) => r = 0) (fun _ => [(h0, .inr (10, [.ref b0, .ref b1, .int np, .int 1, .long hh])), (b0, .inl (G.2.1.2, 344, .inr (.inl S))), (b1, .inl (G.2.1.2, 1032, .inr (.inl P)))])) 0 0 := by
  refine sw_start (cc := cX10_record) (maxL := 5) (ret := some .long) (lv := [(0, .ref h0), (1, .int 253), (2, .int 3), (3, .int i), (4, .int j)]) (own := RX10) (nm := "record") (by decide +kernel) rfl rfl rfl rfl (Nat.le_of_ble_eq_true rfl) (fun C F T => ?_)
  have in10 : ∀ w ∈ u_ws RX10 TX10 5, w ∈ wsX10_record := fun w h => List.mem_cons_of_mem _ (List.mem_append_right _ (h))
  refine sw_iload_n (pc := 0) F dX10_record_0 rfl 3 rfl ?_
  refine sw_i2l (pc := 1) F dX10_record_1 rfl ?_
  refine sw_lconst (pc := 2) (v := 0) F dX10_record_2 rfl ?_
  refine sw_aload_n (pc := 3) F dX10_record_3 rfl 0 rfl ?_
  refine sw_get (pc := 4) (Cn := RX10) (T := TX10) (N := 5) (ci := 10) (v := .ref b0) F in10 0 rfl rfl 0 (by decide) rfl (List.mem_of_getElem? (i := 1) rfl) rfl dX10_record_4 ?_
  refine sw_iload_n (pc := 7) F dX10_record_7 rfl 1 rfl ?_
  refine sw_lald (pc := 8) F 1 rfl (sw_in rfl) dX10_record_8 ?_
  refine sw_naml (e := S 253) rfl (fun x_1 ex_1 => ?_)
  refine sw_lconst (pc := 9) (v := 1) F dX10_record_9 rfl ?_
  refine sw_lsub (pc := 10) F dX10_record_10 ?_
  refine sw_topl (fun x_2 ex_2 => ?_)
  refine sw_calli (pc := 11) (wr := [(h0, .inr (10, [.ref b0, .ref b1, .int np, .int th, .long hh])), (b0, .inl (G.2.1.2, 344, .inr (.inl S))), (b1, .inl (G.2.1.2, 1032, .inr (.inl P)))]) (k' := 0) (n' := 0) F (sw_runS (R := ({ frames := 1, cells := 0, slots := 0, locals := 25 } : Room)) (na := 3) F T.2.1 T.2.2.1 (k_X10_in l G i.toInt64 0 x_2) [] rfl (by decide) gX10_record_X10_in rfl rfl rfl (by decide +kernel) ⟨Nat.le_of_ble_eq_true rfl, Nat.le_of_ble_eq_true rfl⟩ rfl rfl (Nat.le_of_ble_eq_true rfl) dX10_record_11 (Nat.le_of_ble_eq_true rfl) (Nat.le_of_ble_eq_true rfl)) [] [0, 1, 2] rfl rfl (by decide) (by decide) rfl rfl (fun r_3 u_4 h_5 => ?_)
  have e_6 : r_3 = f_X10_in_r i.toInt64 0 x_2 := h_5
  refine sw_eq (ws' := [(h0, .inr (10, [.ref b0, .ref b1, .int np, .int th, .long hh])), (b0, .inl (G.2.1.2, 344, .inr (.inl S))), (b1, .inl (G.2.1.2, 1032, .inr (.inl P)))]) (lv' := [(0, .ref h0), (1, .int 253), (2, .int 3), (3, .int i), (4, .int j)]) (st' := [.int r_3]) rfl rfl rfl ?_
  refine sw_if_ne (pc := 14) (tgt := 24) F dX10_record_14 (by decide) (fun c => absurd (by rw [e_6]; exact (by subst_vars; exact hf0)) c) (fun _ => ?_)
  refine sw_aload_n (pc := 17) F dX10_record_17 rfl 0 rfl ?_
  refine sw_iconst (pc := 18) (v := 1) F dX10_record_18 rfl ?_
  refine sw_calli (pc := 19) (wr := []) (k' := 0) (n' := 0) F (sw_runV (R := ({ frames := 1, cells := 0, slots := 0, locals := 25 } : Room)) (q0 := 0) (na := 1) F T.2.1 T.2.2.1 (k_X10_fails l G h0 b0 b1 np th hh S P 1) [0, 1, 2] rfl (by decide) gX10_record_X10_fails rfl rfl rfl (by decide +kernel) ⟨Nat.le_of_ble_eq_true rfl, Nat.le_of_ble_eq_true rfl⟩ rfl rfl rfl rfl rfl (Nat.le_of_ble_eq_true rfl) dX10_record_19 (Nat.le_of_ble_eq_true rfl) (Nat.le_of_ble_eq_true rfl)) [0, 1, 2] [] rfl rfl (by decide) (by decide) rfl rfl (fun r_7 u_8 h_9 => ?_)
  have e_10 : r_7 = 0 := h_9
  refine sw_eqt (v := .int 0) (by rw [e_10]) ?_
  refine sw_eq (ws' := [(h0, .inr (10, [.ref b0, .ref b1, .int np, .int 1, .long hh])), (b0, .inl (G.2.1.2, 344, .inr (.inl S))), (b1, .inl (G.2.1.2, 1032, .inr (.inl P)))]) (lv' := [(0, .ref h0), (1, .int 253), (2, .int 3), (3, .int i), (4, .int j)]) (st' := [.int 0]) rfl rfl rfl ?_
  refine sw_i2l (pc := 22) (v := 0) F dX10_record_22 rfl ?_
  subst e_6
  subst ex_2
  subst ex_1
  exact sw_lret (pc := 23) F T () rfl rfl dX10_record_23
set_option maxHeartbeats 4000000 in
set_option maxRecDepth 100000 in
theorem k_X10_event_f1 (l : Launch) (G : sw_E) (h0 : Nat) (b0 : Nat) (b1 : Nat) (np : Int32) (th : Int32) (hh : Int64) (S : Nat → Int64) (P : Nat → Int64) (i : Int32) (j : Int32) (hf0 : f_X10_in_r i.toInt64 0 (S 253 - 1) = 0) : sw_M l G yX10_event wsX10_event ({ frames := 2, cells := 0, slots := 0, locals := 49 } : Room) [.ref h0, .int i, .int j] [(h0, .inr (10, [.ref b0, .ref b1, .int np, .int th, .long hh])), (b0, .inl (G.2.1.2, 344, .inr (.inl S))), (b1, .inl (G.2.1.2, 1032, .inr (.inl P)))] (sw_QL G (S := Unit) (fun (r : Int64) (_ : Unit) => r = 0) (fun _ => [(h0, .inr (10, [.ref b0, .ref b1, .int np, .int 1, .long hh])), (b0, .inl (G.2.1.2, 344, .inr (.inl S))), (b1, .inl (G.2.1.2, 1032, .inr (.inl P)))])) 0 0 := by
  refine sw_start (cc := cX10_event) (maxL := 3) (ret := some .long) (lv := [(0, .ref h0), (1, .int i), (2, .int j)]) (own := RX10) (nm := "event") (by decide +kernel) rfl rfl rfl rfl (Nat.le_of_ble_eq_true rfl) (fun C F T => ?_)
  refine sw_aload_n (pc := 0) F dX10_event_0 rfl 0 rfl ?_
  refine sw_sipush (pc := 1) (v := 253) F dX10_event_1 rfl ?_
  refine sw_iconst (pc := 4) (v := 3) F dX10_event_4 rfl ?_
  refine sw_iload_n (pc := 5) F dX10_event_5 rfl 1 rfl ?_
  refine sw_iload_n (pc := 6) F dX10_event_6 rfl 2 rfl ?_
  refine sw_calll (pc := 7) (wr := []) (k' := 0) (n' := 0) F (sw_runV (R := ({ frames := 2, cells := 0, slots := 0, locals := 49 } : Room)) (q0 := 0) (na := 4) F T.2.1 T.2.2.1 (k_X10_record_event_f1 l G h0 b0 b1 np th hh S P i j (by assumption)) [0, 1, 2] rfl (by decide) gX10_event_X10_record rfl rfl rfl (by decide +kernel) ⟨Nat.le_of_ble_eq_true rfl, Nat.le_of_ble_eq_true rfl⟩ rfl rfl rfl rfl rfl (Nat.le_of_ble_eq_true rfl) dX10_event_7 (Nat.le_of_ble_eq_true rfl) (Nat.le_of_ble_eq_true rfl)) [0, 1, 2] [] rfl rfl (by decide) (by decide) rfl rfl (fun r_1 u_2 h_3 => ?_)
  have e_4 : r_1 = 0 := h_3
  refine sw_eqt (v := .long 0) (by rw [e_4]) ?_
  refine sw_eq (ws' := [(h0, .inr (10, [.ref b0, .ref b1, .int np, .int 1, .long hh])), (b0, .inl (G.2.1.2, 344, .inr (.inl S))), (b1, .inl (G.2.1.2, 1032, .inr (.inl P)))]) (lv' := [(0, .ref h0), (1, .int i), (2, .int j)]) (st' := [.long 0]) rfl rfl rfl ?_
  exact sw_lret (pc := 10) F T () rfl rfl dX10_event_10
set_option maxHeartbeats 4000000 in
set_option maxRecDepth 100000 in
theorem k_X10_record_event_f2 (l : Launch) (G : sw_E) (h0 : Nat) (b0 : Nat) (b1 : Nat) (np : Int32) (th : Int32) (hh : Int64) (S : Nat → Int64) (P : Nat → Int64) (i : Int32) (j : Int32) (hf0 : ¬ f_X10_in_r i.toInt64 0 (S 253 - 1) = 0) (hf1 : f_X10_in_r j.toInt64 0 2 = 0) : sw_M l G yX10_record wsX10_record ({ frames := 1, cells := 0, slots := 0, locals := 25 } : Room) [.ref h0, .int 253, .int 3, .int i, .int j] [(h0, .inr (10, [.ref b0, .ref b1, .int np, .int th, .long hh])), (b0, .inl (G.2.1.2, 344, .inr (.inl S))), (b1, .inl (G.2.1.2, 1032, .inr (.inl P)))] (sw_QL G (S := Unit) (fun (r : Int64) (_ : Unit) => r = 0) (fun _ => [(h0, .inr (10, [.ref b0, .ref b1, .int np, .int 2, .long hh])), (b0, .inl (G.2.1.2, 344, .inr (.inl S))), (b1, .inl (G.2.1.2, 1032, .inr (.inl P)))])) 0 0 := by
  refine sw_start (cc := cX10_record) (maxL := 5) (ret := some .long) (lv := [(0, .ref h0), (1, .int 253), (2, .int 3), (3, .int i), (4, .int j)]) (own := RX10) (nm := "record") (by decide +kernel) rfl rfl rfl rfl (Nat.le_of_ble_eq_true rfl) (fun C F T => ?_)
  have in10 : ∀ w ∈ u_ws RX10 TX10 5, w ∈ wsX10_record := fun w h => List.mem_cons_of_mem _ (List.mem_append_right _ (h))
  refine sw_iload_n (pc := 0) F dX10_record_0 rfl 3 rfl ?_
  refine sw_i2l (pc := 1) F dX10_record_1 rfl ?_
  refine sw_lconst (pc := 2) (v := 0) F dX10_record_2 rfl ?_
  refine sw_aload_n (pc := 3) F dX10_record_3 rfl 0 rfl ?_
  refine sw_get (pc := 4) (Cn := RX10) (T := TX10) (N := 5) (ci := 10) (v := .ref b0) F in10 0 rfl rfl 0 (by decide) rfl (List.mem_of_getElem? (i := 1) rfl) rfl dX10_record_4 ?_
  refine sw_iload_n (pc := 7) F dX10_record_7 rfl 1 rfl ?_
  refine sw_lald (pc := 8) F 1 rfl (sw_in rfl) dX10_record_8 ?_
  refine sw_naml (e := S 253) rfl (fun x_1 ex_1 => ?_)
  refine sw_lconst (pc := 9) (v := 1) F dX10_record_9 rfl ?_
  refine sw_lsub (pc := 10) F dX10_record_10 ?_
  refine sw_topl (fun x_2 ex_2 => ?_)
  refine sw_calli (pc := 11) (wr := [(h0, .inr (10, [.ref b0, .ref b1, .int np, .int th, .long hh])), (b0, .inl (G.2.1.2, 344, .inr (.inl S))), (b1, .inl (G.2.1.2, 1032, .inr (.inl P)))]) (k' := 0) (n' := 0) F (sw_runS (R := ({ frames := 1, cells := 0, slots := 0, locals := 25 } : Room)) (na := 3) F T.2.1 T.2.2.1 (k_X10_in l G i.toInt64 0 x_2) [] rfl (by decide) gX10_record_X10_in rfl rfl rfl (by decide +kernel) ⟨Nat.le_of_ble_eq_true rfl, Nat.le_of_ble_eq_true rfl⟩ rfl rfl (Nat.le_of_ble_eq_true rfl) dX10_record_11 (Nat.le_of_ble_eq_true rfl) (Nat.le_of_ble_eq_true rfl)) [] [0, 1, 2] rfl rfl (by decide) (by decide) rfl rfl (fun r_3 u_4 h_5 => ?_)
  have e_6 : r_3 = f_X10_in_r i.toInt64 0 x_2 := h_5
  refine sw_eq (ws' := [(h0, .inr (10, [.ref b0, .ref b1, .int np, .int th, .long hh])), (b0, .inl (G.2.1.2, 344, .inr (.inl S))), (b1, .inl (G.2.1.2, 1032, .inr (.inl P)))]) (lv' := [(0, .ref h0), (1, .int 253), (2, .int 3), (3, .int i), (4, .int j)]) (st' := [.int r_3]) rfl rfl rfl ?_
  refine sw_if_ne (pc := 14) (tgt := 24) F dX10_record_14 (by decide) (fun _ => ?_) (fun c => absurd c (by rw [e_6]; exact (by subst_vars; exact hf0)))
  refine sw_iload (pc := 24) F dX10_record_24 4 rfl ?_
  refine sw_i2l (pc := 26) F dX10_record_26 rfl ?_
  refine sw_lconst (pc := 27) (v := 0) F dX10_record_27 rfl ?_
  refine sw_iload_n (pc := 28) F dX10_record_28 rfl 2 rfl ?_
  refine sw_iconst (pc := 29) (v := 1) F dX10_record_29 rfl ?_
  refine sw_isub (pc := 30) F dX10_record_30 ?_
  refine sw_eqt (v := .int 2) (by rfl) ?_
  refine sw_i2l (pc := 31) (v := 2) F dX10_record_31 rfl ?_
  refine sw_calli (pc := 32) (wr := [(h0, .inr (10, [.ref b0, .ref b1, .int np, .int th, .long hh])), (b0, .inl (G.2.1.2, 344, .inr (.inl S))), (b1, .inl (G.2.1.2, 1032, .inr (.inl P)))]) (k' := 0) (n' := 0) F (sw_runS (R := ({ frames := 1, cells := 0, slots := 0, locals := 25 } : Room)) (na := 3) F T.2.1 T.2.2.1 (k_X10_in l G j.toInt64 0 2) [] rfl (by decide) gX10_record_X10_in rfl rfl rfl (by decide +kernel) ⟨Nat.le_of_ble_eq_true rfl, Nat.le_of_ble_eq_true rfl⟩ rfl rfl (Nat.le_of_ble_eq_true rfl) dX10_record_32 (Nat.le_of_ble_eq_true rfl) (Nat.le_of_ble_eq_true rfl)) [] [0, 1, 2] rfl rfl (by decide) (by decide) rfl rfl (fun r_7 u_8 h_9 => ?_)
  have e_10 : r_7 = f_X10_in_r j.toInt64 0 2 := h_9
  refine sw_eq (ws' := [(h0, .inr (10, [.ref b0, .ref b1, .int np, .int th, .long hh])), (b0, .inl (G.2.1.2, 344, .inr (.inl S))), (b1, .inl (G.2.1.2, 1032, .inr (.inl P)))]) (lv' := [(0, .ref h0), (1, .int 253), (2, .int 3), (3, .int i), (4, .int j)]) (st' := [.int r_7]) rfl rfl rfl ?_
  refine sw_if_ne (pc := 35) (tgt := 45) F dX10_record_35 (by decide) (fun c => absurd (by rw [e_10]; exact (by subst_vars; exact hf1)) c) (fun _ => ?_)
  refine sw_aload_n (pc := 38) F dX10_record_38 rfl 0 rfl ?_
  refine sw_iconst (pc := 39) (v := 2) F dX10_record_39 rfl ?_
  refine sw_calli (pc := 40) (wr := []) (k' := 0) (n' := 0) F (sw_runV (R := ({ frames := 1, cells := 0, slots := 0, locals := 25 } : Room)) (q0 := 0) (na := 1) F T.2.1 T.2.2.1 (k_X10_fails l G h0 b0 b1 np th hh S P 2) [0, 1, 2] rfl (by decide) gX10_record_X10_fails rfl rfl rfl (by decide +kernel) ⟨Nat.le_of_ble_eq_true rfl, Nat.le_of_ble_eq_true rfl⟩ rfl rfl rfl rfl rfl (Nat.le_of_ble_eq_true rfl) dX10_record_40 (Nat.le_of_ble_eq_true rfl) (Nat.le_of_ble_eq_true rfl)) [0, 1, 2] [] rfl rfl (by decide) (by decide) rfl rfl (fun r_11 u_12 h_13 => ?_)
  have e_14 : r_11 = 0 := h_13
  refine sw_eqt (v := .int 0) (by rw [e_14]) ?_
  refine sw_eq (ws' := [(h0, .inr (10, [.ref b0, .ref b1, .int np, .int 2, .long hh])), (b0, .inl (G.2.1.2, 344, .inr (.inl S))), (b1, .inl (G.2.1.2, 1032, .inr (.inl P)))]) (lv' := [(0, .ref h0), (1, .int 253), (2, .int 3), (3, .int i), (4, .int j)]) (st' := [.int 0]) rfl rfl rfl ?_
  refine sw_i2l (pc := 43) (v := 0) F dX10_record_43 rfl ?_
  subst e_10
  subst e_6
  subst ex_2
  subst ex_1
  exact sw_lret (pc := 44) F T () rfl rfl dX10_record_44
set_option maxHeartbeats 4000000 in
set_option maxRecDepth 100000 in
theorem k_X10_event_f2 (l : Launch) (G : sw_E) (h0 : Nat) (b0 : Nat) (b1 : Nat) (np : Int32) (th : Int32) (hh : Int64) (S : Nat → Int64) (P : Nat → Int64) (i : Int32) (j : Int32) (hf0 : ¬ f_X10_in_r i.toInt64 0 (S 253 - 1) = 0) (hf1 : f_X10_in_r j.toInt64 0 2 = 0) : sw_M l G yX10_event wsX10_event ({ frames := 2, cells := 0, slots := 0, locals := 49 } : Room) [.ref h0, .int i, .int j] [(h0, .inr (10, [.ref b0, .ref b1, .int np, .int th, .long hh])), (b0, .inl (G.2.1.2, 344, .inr (.inl S))), (b1, .inl (G.2.1.2, 1032, .inr (.inl P)))] (sw_QL G (S := Unit) (fun (r : Int64) (_ : Unit) => r = 0) (fun _ => [(h0, .inr (10, [.ref b0, .ref b1, .int np, .int 2, .long hh])), (b0, .inl (G.2.1.2, 344, .inr (.inl S))), (b1, .inl (G.2.1.2, 1032, .inr (.inl P)))])) 0 0 := by
  refine sw_start (cc := cX10_event) (maxL := 3) (ret := some .long) (lv := [(0, .ref h0), (1, .int i), (2, .int j)]) (own := RX10) (nm := "event") (by decide +kernel) rfl rfl rfl rfl (Nat.le_of_ble_eq_true rfl) (fun C F T => ?_)
  refine sw_aload_n (pc := 0) F dX10_event_0 rfl 0 rfl ?_
  refine sw_sipush (pc := 1) (v := 253) F dX10_event_1 rfl ?_
  refine sw_iconst (pc := 4) (v := 3) F dX10_event_4 rfl ?_
  refine sw_iload_n (pc := 5) F dX10_event_5 rfl 1 rfl ?_
  refine sw_iload_n (pc := 6) F dX10_event_6 rfl 2 rfl ?_
  refine sw_calll (pc := 7) (wr := []) (k' := 0) (n' := 0) F (sw_runV (R := ({ frames := 2, cells := 0, slots := 0, locals := 49 } : Room)) (q0 := 0) (na := 4) F T.2.1 T.2.2.1 (k_X10_record_event_f2 l G h0 b0 b1 np th hh S P i j (by assumption) (by assumption)) [0, 1, 2] rfl (by decide) gX10_event_X10_record rfl rfl rfl (by decide +kernel) ⟨Nat.le_of_ble_eq_true rfl, Nat.le_of_ble_eq_true rfl⟩ rfl rfl rfl rfl rfl (Nat.le_of_ble_eq_true rfl) dX10_event_7 (Nat.le_of_ble_eq_true rfl) (Nat.le_of_ble_eq_true rfl)) [0, 1, 2] [] rfl rfl (by decide) (by decide) rfl rfl (fun r_1 u_2 h_3 => ?_)
  have e_4 : r_1 = 0 := h_3
  refine sw_eqt (v := .long 0) (by rw [e_4]) ?_
  refine sw_eq (ws' := [(h0, .inr (10, [.ref b0, .ref b1, .int np, .int 2, .long hh])), (b0, .inl (G.2.1.2, 344, .inr (.inl S))), (b1, .inl (G.2.1.2, 1032, .inr (.inl P)))]) (lv' := [(0, .ref h0), (1, .int i), (2, .int j)]) (st' := [.long 0]) rfl rfl rfl ?_
  exact sw_lret (pc := 10) F T () rfl rfl dX10_event_10
