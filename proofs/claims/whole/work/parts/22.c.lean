theorem isFaulty_b (x : Int32) : f_X8_isFaulty_r x = 0 ∨ f_X8_isFaulty_r x = 1 := by
  unfold f_X8_isFaulty_r
  split
  · exact Or.inl rfl
  · exact Or.inr rfl
set_option maxHeartbeats 4000000 in
set_option maxRecDepth 100000 in
theorem k_X6_transmitterAt_0 (l : Launch) (G : sw_E) (h0 : Nat) (a1 : Nat) (a2 : Nat) (a3 : Nat) (a4 : Nat) (a5 : Nat) (a8 : Nat) (a9 : Nat) (a10 : Nat) (a13 : Nat) (a14 : Nat) (a15 : Nat) (a16 : Nat) (tm : Int32) (ch : Int32) (rg : Int32) (hd : Int32) (df : Int32) (fl : Int64) (ms : Int64) (vo : Int64)  : sw_M l G yX6_transmitterAt wsX6_transmitterAt ({ frames := 0, cells := 0, slots := 0, locals := 0 } : Room) [.ref h0, .int 0] [(h0, .inr (6, [.int tm, .int ch, .ref a1, .ref a2, .ref a3, .ref a4, .int rg, .int hd, .int df, .ref a5, .ref a8, .long fl, .long ms, .long vo, .ref a9, .ref a10, .ref a13, .ref a14, .ref a15, .ref a16]))] (sw_QR G (S := Unit) (fun (r : Nat) (_ : Unit) => r = a1) (fun _ => [(h0, .inr (6, [.int tm, .int ch, .ref a1, .ref a2, .ref a3, .ref a4, .int rg, .int hd, .int df, .ref a5, .ref a8, .long fl, .long ms, .long vo, .ref a9, .ref a10, .ref a13, .ref a14, .ref a15, .ref a16]))])) 0 0 := by
  refine sw_start (cc := cX6_transmitterAt) (maxL := 2) (ret := some (.object "FlowComputer$Transmitter")) (lv := [(0, .ref h0), (1, .int 0)]) (own := RX6) (nm := "transmitterAt") (by decide +kernel) rfl rfl rfl rfl (Nat.le_of_ble_eq_true rfl) (fun C F T => ?_)
  have in6 : ∀ w ∈ u_ws RX6 TX6 20, w ∈ wsX6_transmitterAt := fun w h => List.mem_cons_of_mem _ (List.mem_append_right _ (h))
  refine sw_iload_n (pc := 0) F dX6_transmitterAt_0 rfl 1 rfl ?_
  refine sw_tableIn (pc := 1) (tgt := 28) (off := 27) F dX6_transmitterAt_1 (by decide) (by decide) rfl (by decide) ?_
  refine sw_aload_n (pc := 28) F dX6_transmitterAt_28 rfl 0 rfl ?_
  refine sw_get (pc := 29) (Cn := RX6) (T := TX6) (N := 20) (ci := 6) (v := .ref a1) F in6 0 rfl rfl 2 (by decide) rfl (List.mem_of_getElem? (i := 1) rfl) rfl dX6_transmitterAt_29 ?_
  exact sw_aret (pc := 32) F T () rfl rfl dX6_transmitterAt_32
set_option maxHeartbeats 4000000 in
set_option maxRecDepth 100000 in
theorem k_X6_transmitterAt_1 (l : Launch) (G : sw_E) (h0 : Nat) (a1 : Nat) (a2 : Nat) (a3 : Nat) (a4 : Nat) (a5 : Nat) (a8 : Nat) (a9 : Nat) (a10 : Nat) (a13 : Nat) (a14 : Nat) (a15 : Nat) (a16 : Nat) (tm : Int32) (ch : Int32) (rg : Int32) (hd : Int32) (df : Int32) (fl : Int64) (ms : Int64) (vo : Int64)  : sw_M l G yX6_transmitterAt wsX6_transmitterAt ({ frames := 0, cells := 0, slots := 0, locals := 0 } : Room) [.ref h0, .int 1] [(h0, .inr (6, [.int tm, .int ch, .ref a1, .ref a2, .ref a3, .ref a4, .int rg, .int hd, .int df, .ref a5, .ref a8, .long fl, .long ms, .long vo, .ref a9, .ref a10, .ref a13, .ref a14, .ref a15, .ref a16]))] (sw_QR G (S := Unit) (fun (r : Nat) (_ : Unit) => r = a2) (fun _ => [(h0, .inr (6, [.int tm, .int ch, .ref a1, .ref a2, .ref a3, .ref a4, .int rg, .int hd, .int df, .ref a5, .ref a8, .long fl, .long ms, .long vo, .ref a9, .ref a10, .ref a13, .ref a14, .ref a15, .ref a16]))])) 0 0 := by
  refine sw_start (cc := cX6_transmitterAt) (maxL := 2) (ret := some (.object "FlowComputer$Transmitter")) (lv := [(0, .ref h0), (1, .int 1)]) (own := RX6) (nm := "transmitterAt") (by decide +kernel) rfl rfl rfl rfl (Nat.le_of_ble_eq_true rfl) (fun C F T => ?_)
  have in6 : ∀ w ∈ u_ws RX6 TX6 20, w ∈ wsX6_transmitterAt := fun w h => List.mem_cons_of_mem _ (List.mem_append_right _ (h))
  refine sw_iload_n (pc := 0) F dX6_transmitterAt_0 rfl 1 rfl ?_
  refine sw_tableIn (pc := 1) (tgt := 33) (off := 32) F dX6_transmitterAt_1 (by decide) (by decide) rfl (by decide) ?_
  refine sw_aload_n (pc := 33) F dX6_transmitterAt_33 rfl 0 rfl ?_
  refine sw_get (pc := 34) (Cn := RX6) (T := TX6) (N := 20) (ci := 6) (v := .ref a2) F in6 0 rfl rfl 3 (by decide) rfl (List.mem_of_getElem? (i := 2) rfl) rfl dX6_transmitterAt_34 ?_
  exact sw_aret (pc := 37) F T () rfl rfl dX6_transmitterAt_37
set_option maxHeartbeats 4000000 in
set_option maxRecDepth 100000 in
theorem k_X6_transmitterAt_2 (l : Launch) (G : sw_E) (h0 : Nat) (a1 : Nat) (a2 : Nat) (a3 : Nat) (a4 : Nat) (a5 : Nat) (a8 : Nat) (a9 : Nat) (a10 : Nat) (a13 : Nat) (a14 : Nat) (a15 : Nat) (a16 : Nat) (tm : Int32) (ch : Int32) (rg : Int32) (hd : Int32) (df : Int32) (fl : Int64) (ms : Int64) (vo : Int64)  : sw_M l G yX6_transmitterAt wsX6_transmitterAt ({ frames := 0, cells := 0, slots := 0, locals := 0 } : Room) [.ref h0, .int 2] [(h0, .inr (6, [.int tm, .int ch, .ref a1, .ref a2, .ref a3, .ref a4, .int rg, .int hd, .int df, .ref a5, .ref a8, .long fl, .long ms, .long vo, .ref a9, .ref a10, .ref a13, .ref a14, .ref a15, .ref a16]))] (sw_QR G (S := Unit) (fun (r : Nat) (_ : Unit) => r = a3) (fun _ => [(h0, .inr (6, [.int tm, .int ch, .ref a1, .ref a2, .ref a3, .ref a4, .int rg, .int hd, .int df, .ref a5, .ref a8, .long fl, .long ms, .long vo, .ref a9, .ref a10, .ref a13, .ref a14, .ref a15, .ref a16]))])) 0 0 := by
  refine sw_start (cc := cX6_transmitterAt) (maxL := 2) (ret := some (.object "FlowComputer$Transmitter")) (lv := [(0, .ref h0), (1, .int 2)]) (own := RX6) (nm := "transmitterAt") (by decide +kernel) rfl rfl rfl rfl (Nat.le_of_ble_eq_true rfl) (fun C F T => ?_)
  have in6 : ∀ w ∈ u_ws RX6 TX6 20, w ∈ wsX6_transmitterAt := fun w h => List.mem_cons_of_mem _ (List.mem_append_right _ (h))
  refine sw_iload_n (pc := 0) F dX6_transmitterAt_0 rfl 1 rfl ?_
  refine sw_tableIn (pc := 1) (tgt := 38) (off := 37) F dX6_transmitterAt_1 (by decide) (by decide) rfl (by decide) ?_
  refine sw_aload_n (pc := 38) F dX6_transmitterAt_38 rfl 0 rfl ?_
  refine sw_get (pc := 39) (Cn := RX6) (T := TX6) (N := 20) (ci := 6) (v := .ref a3) F in6 0 rfl rfl 4 (by decide) rfl (List.mem_of_getElem? (i := 3) rfl) rfl dX6_transmitterAt_39 ?_
  exact sw_aret (pc := 42) F T () rfl rfl dX6_transmitterAt_42
set_option maxHeartbeats 4000000 in
set_option maxRecDepth 100000 in
theorem k_X6_transmitterAt_3 (l : Launch) (G : sw_E) (h0 : Nat) (a1 : Nat) (a2 : Nat) (a3 : Nat) (a4 : Nat) (a5 : Nat) (a8 : Nat) (a9 : Nat) (a10 : Nat) (a13 : Nat) (a14 : Nat) (a15 : Nat) (a16 : Nat) (tm : Int32) (ch : Int32) (rg : Int32) (hd : Int32) (df : Int32) (fl : Int64) (ms : Int64) (vo : Int64)  : sw_M l G yX6_transmitterAt wsX6_transmitterAt ({ frames := 0, cells := 0, slots := 0, locals := 0 } : Room) [.ref h0, .int 3] [(h0, .inr (6, [.int tm, .int ch, .ref a1, .ref a2, .ref a3, .ref a4, .int rg, .int hd, .int df, .ref a5, .ref a8, .long fl, .long ms, .long vo, .ref a9, .ref a10, .ref a13, .ref a14, .ref a15, .ref a16]))] (sw_QR G (S := Unit) (fun (r : Nat) (_ : Unit) => r = a4) (fun _ => [(h0, .inr (6, [.int tm, .int ch, .ref a1, .ref a2, .ref a3, .ref a4, .int rg, .int hd, .int df, .ref a5, .ref a8, .long fl, .long ms, .long vo, .ref a9, .ref a10, .ref a13, .ref a14, .ref a15, .ref a16]))])) 0 0 := by
  refine sw_start (cc := cX6_transmitterAt) (maxL := 2) (ret := some (.object "FlowComputer$Transmitter")) (lv := [(0, .ref h0), (1, .int 3)]) (own := RX6) (nm := "transmitterAt") (by decide +kernel) rfl rfl rfl rfl (Nat.le_of_ble_eq_true rfl) (fun C F T => ?_)
  have in6 : ∀ w ∈ u_ws RX6 TX6 20, w ∈ wsX6_transmitterAt := fun w h => List.mem_cons_of_mem _ (List.mem_append_right _ (h))
  refine sw_iload_n (pc := 0) F dX6_transmitterAt_0 rfl 1 rfl ?_
  refine sw_tableOut (pc := 1) (tgt := 43) F dX6_transmitterAt_1 (by decide) (by decide) ?_
  refine sw_aload_n (pc := 43) F dX6_transmitterAt_43 rfl 0 rfl ?_
  refine sw_get (pc := 44) (Cn := RX6) (T := TX6) (N := 20) (ci := 6) (v := .ref a4) F in6 0 rfl rfl 5 (by decide) rfl (List.mem_of_getElem? (i := 4) rfl) rfl dX6_transmitterAt_44 ?_
  exact sw_aret (pc := 47) F T () rfl rfl dX6_transmitterAt_47
def f_X6_log_o1_3 (eo : Int32) (en : Int32) : Int32 := (f_X4_addRow_o0_3 30 eo en)
def f_X6_log_o1_4 (en : Int32) : Int32 := (f_X4_addRow_o0_4 30 en)
def f_X6_log_o2 (tm : Int32) (eo : Int32) (en : Int32) (ef : Nat → Int64) (q : Int32) (v : Int64) : Nat → Int64 := (f_X4_put_o1 90 30 3 (f_X4_addRow_o0_3 30 eo en) (f_X4_addRow_o0_4 30 en) (f_X4_put_o1 90 30 3 (f_X4_addRow_o0_3 30 eo en) (f_X4_addRow_o0_4 30 en) (f_X4_put_o1 90 30 3 (f_X4_addRow_o0_3 30 eo en) (f_X4_addRow_o0_4 30 en) ef 0 tm.toInt64) 1 q.toInt64) 2 v)
set_option maxHeartbeats 4000000 in
set_option maxRecDepth 100000 in
theorem k_X6_log (l : Launch) (G : sw_E) (h0 : Nat) (a1 : Nat) (a2 : Nat) (a3 : Nat) (a4 : Nat) (a5 : Nat) (a8 : Nat) (a9 : Nat) (a10 : Nat) (a13 : Nat) (a14 : Nat) (a15 : Nat) (a16 : Nat) (a19 : Nat) (tm : Int32) (ch : Int32) (rg : Int32) (hd : Int32) (df : Int32) (fl : Int64) (ms : Int64) (vo : Int64) (eo : Int32) (en : Int32) (ef : Nat → Int64) (q : Int32) (v : Int64)  : sw_M l G yX6_log wsX6_log ({ frames := 2, cells := 0, slots := 0, locals := 47 } : Room) [.ref h0, .int q, .long v] [(h0, .inr (6, [.int tm, .int ch, .ref a1, .ref a2, .ref a3, .ref a4, .int rg, .int hd, .int df, .ref a5, .ref a8, .long fl, .long ms, .long vo, .ref a9, .ref a10, .ref a13, .ref a14, .ref a15, .ref a16])), (a16, .inr (4, [.int 30, .int 3, .ref a19, .int eo, .int en])), (a19, .inl (G.2.1.2, 90, .inr (.inl ef)))] (sw_QV G (S := Int32 × Int32 × (Nat → Int64)) (fun (u : Int32 × Int32 × (Nat → Int64)) => u.1 = f_X6_log_o1_3 eo en ∧ u.2.1 = f_X6_log_o1_4 en ∧ u.2.2 = f_X6_log_o2 tm eo en ef q v) (fun u => [(h0, .inr (6, [.int tm, .int ch, .ref a1, .ref a2, .ref a3, .ref a4, .int rg, .int hd, .int df, .ref a5, .ref a8, .long fl, .long ms, .long vo, .ref a9, .ref a10, .ref a13, .ref a14, .ref a15, .ref a16])), (a16, .inr (4, [.int 30, .int 3, .ref a19, .int u.1, .int u.2.1])), (a19, .inl (G.2.1.2, 90, .inr (.inl u.2.2)))])) 0 0 := by
  refine sw_start (cc := cX6_log) (maxL := 4) (ret := none) (lv := [(0, .ref h0), (1, .int q), (2, .long v)]) (own := RX6) (nm := "log") (by decide +kernel) rfl rfl rfl rfl (Nat.le_of_ble_eq_true rfl) (fun C F T => ?_)
  have in6 : ∀ w ∈ u_ws RX6 TX6 20, w ∈ wsX6_log := fun w h => List.mem_cons_of_mem _ (List.mem_append_left _ (List.mem_append_right _ (h)))
  refine sw_aload_n (pc := 0) F dX6_log_0 rfl 0 rfl ?_
  refine sw_get (pc := 1) (Cn := RX6) (T := TX6) (N := 20) (ci := 6) (v := .ref a16) F in6 0 rfl rfl 19 (by decide) rfl (List.mem_of_getElem? (i := 1) rfl) rfl dX6_log_1 ?_
  refine sw_callv (pc := 4) (wr := [(h0, .inr (6, [.int tm, .int ch, .ref a1, .ref a2, .ref a3, .ref a4, .int rg, .int hd, .int df, .ref a5, .ref a8, .long fl, .long ms, .long vo, .ref a9, .ref a10, .ref a13, .ref a14, .ref a15, .ref a16]))]) (k' := 0) (n' := 0) F (sw_runV (R := ({ frames := 2, cells := 0, slots := 0, locals := 47 } : Room)) (q0 := 0) (na := 0) F T.2.1 T.2.2.1 (k_X4_addRow l G a16 a19 90 30 3 eo en ef) [1, 2] rfl (by decide) gX6_log_X4_addRow rfl rfl rfl (by decide +kernel) ⟨Nat.le_of_ble_eq_true rfl, Nat.le_of_ble_eq_true rfl⟩ rfl rfl rfl rfl rfl (Nat.le_of_ble_eq_true rfl) dX6_log_4 (Nat.le_of_ble_eq_true rfl) (Nat.le_of_ble_eq_true rfl)) [1, 2] [0] rfl rfl (by decide) (by decide) rfl rfl (fun u_2 h_3 => ?_)
  obtain ⟨o_4, o_5⟩ := u_2
  obtain ⟨e_6, e_7⟩ : o_4 = f_X4_addRow_o0_3 30 eo en ∧ o_5 = f_X4_addRow_o0_4 30 en := h_3
  refine sw_eq (ws' := [(h0, .inr (6, [.int tm, .int ch, .ref a1, .ref a2, .ref a3, .ref a4, .int rg, .int hd, .int df, .ref a5, .ref a8, .long fl, .long ms, .long vo, .ref a9, .ref a10, .ref a13, .ref a14, .ref a15, .ref a16])), (a16, .inr (4, [.int 30, .int 3, .ref a19, .int o_4, .int o_5])), (a19, .inl (G.2.1.2, 90, .inr (.inl ef)))]) (lv' := [(0, .ref h0), (1, .int q), (2, .long v)]) (st' := []) rfl rfl rfl ?_
  refine sw_aload_n (pc := 7) F dX6_log_7 rfl 0 rfl ?_
  refine sw_get (pc := 8) (Cn := RX6) (T := TX6) (N := 20) (ci := 6) (v := .ref a16) F in6 0 rfl rfl 19 (by decide) rfl (List.mem_of_getElem? (i := 1) rfl) rfl dX6_log_8 ?_
  refine sw_iconst (pc := 11) (v := 0) F dX6_log_11 rfl ?_
  refine sw_aload_n (pc := 12) F dX6_log_12 rfl 0 rfl ?_
  refine sw_get (pc := 13) (Cn := RX6) (T := TX6) (N := 20) (ci := 6) (v := .int tm) F in6 0 rfl rfl 0 (by decide) rfl (List.mem_of_getElem? (i := 2) rfl) rfl dX6_log_13 ?_
  refine sw_i2l (pc := 16) F dX6_log_16 rfl ?_
  refine sw_callv (pc := 17) (wr := [(h0, .inr (6, [.int tm, .int ch, .ref a1, .ref a2, .ref a3, .ref a4, .int rg, .int hd, .int df, .ref a5, .ref a8, .long fl, .long ms, .long vo, .ref a9, .ref a10, .ref a13, .ref a14, .ref a15, .ref a16]))]) (k' := 0) (n' := 0) F (sw_runV (R := ({ frames := 2, cells := 0, slots := 0, locals := 47 } : Room)) (q0 := 0) (na := 2) F T.2.1 T.2.2.1 (k_X4_put l G a16 a19 90 30 3 o_4 o_5 ef 0 tm.toInt64 (by decide)) [1, 2] rfl (by decide) gX6_log_X4_put rfl rfl rfl (by decide +kernel) ⟨Nat.le_of_ble_eq_true rfl, Nat.le_of_ble_eq_true rfl⟩ rfl rfl rfl rfl rfl (Nat.le_of_ble_eq_true rfl) dX6_log_17 (Nat.le_of_ble_eq_true rfl) (Nat.le_of_ble_eq_true rfl)) [1, 2] [0] rfl rfl (by decide) (by decide) rfl rfl (fun u_9 h_10 => ?_)
  obtain ⟨o_11, eu_9⟩ : ∃ z, z = u_9 := ⟨_, rfl⟩; subst eu_9
  have e_12 : o_11 = f_X4_put_o1 90 30 3 o_4 o_5 ef 0 tm.toInt64 := h_10
  refine sw_eq (ws' := [(h0, .inr (6, [.int tm, .int ch, .ref a1, .ref a2, .ref a3, .ref a4, .int rg, .int hd, .int df, .ref a5, .ref a8, .long fl, .long ms, .long vo, .ref a9, .ref a10, .ref a13, .ref a14, .ref a15, .ref a16])), (a16, .inr (4, [.int 30, .int 3, .ref a19, .int o_4, .int o_5])), (a19, .inl (G.2.1.2, 90, .inr (.inl o_11)))]) (lv' := [(0, .ref h0), (1, .int q), (2, .long v)]) (st' := []) rfl rfl rfl ?_
  refine sw_aload_n (pc := 20) F dX6_log_20 rfl 0 rfl ?_
  refine sw_get (pc := 21) (Cn := RX6) (T := TX6) (N := 20) (ci := 6) (v := .ref a16) F in6 0 rfl rfl 19 (by decide) rfl (List.mem_of_getElem? (i := 1) rfl) rfl dX6_log_21 ?_
  refine sw_iconst (pc := 24) (v := 1) F dX6_log_24 rfl ?_
  refine sw_iload_n (pc := 25) F dX6_log_25 rfl 1 rfl ?_
  refine sw_i2l (pc := 26) F dX6_log_26 rfl ?_
  refine sw_callv (pc := 27) (wr := [(h0, .inr (6, [.int tm, .int ch, .ref a1, .ref a2, .ref a3, .ref a4, .int rg, .int hd, .int df, .ref a5, .ref a8, .long fl, .long ms, .long vo, .ref a9, .ref a10, .ref a13, .ref a14, .ref a15, .ref a16]))]) (k' := 0) (n' := 0) F (sw_runV (R := ({ frames := 2, cells := 0, slots := 0, locals := 47 } : Room)) (q0 := 0) (na := 2) F T.2.1 T.2.2.1 (k_X4_put l G a16 a19 90 30 3 o_4 o_5 o_11 1 q.toInt64 (by decide)) [1, 2] rfl (by decide) gX6_log_X4_put rfl rfl rfl (by decide +kernel) ⟨Nat.le_of_ble_eq_true rfl, Nat.le_of_ble_eq_true rfl⟩ rfl rfl rfl rfl rfl (Nat.le_of_ble_eq_true rfl) dX6_log_27 (Nat.le_of_ble_eq_true rfl) (Nat.le_of_ble_eq_true rfl)) [1, 2] [0] rfl rfl (by decide) (by decide) rfl rfl (fun u_14 h_15 => ?_)
  obtain ⟨o_16, eu_14⟩ : ∃ z, z = u_14 := ⟨_, rfl⟩; subst eu_14
  have e_17 : o_16 = f_X4_put_o1 90 30 3 o_4 o_5 o_11 1 q.toInt64 := h_15
  refine sw_eq (ws' := [(h0, .inr (6, [.int tm, .int ch, .ref a1, .ref a2, .ref a3, .ref a4, .int rg, .int hd, .int df, .ref a5, .ref a8, .long fl, .long ms, .long vo, .ref a9, .ref a10, .ref a13, .ref a14, .ref a15, .ref a16])), (a16, .inr (4, [.int 30, .int 3, .ref a19, .int o_4, .int o_5])), (a19, .inl (G.2.1.2, 90, .inr (.inl o_16)))]) (lv' := [(0, .ref h0), (1, .int q), (2, .long v)]) (st' := []) rfl rfl rfl ?_
  refine sw_aload_n (pc := 30) F dX6_log_30 rfl 0 rfl ?_
  refine sw_get (pc := 31) (Cn := RX6) (T := TX6) (N := 20) (ci := 6) (v := .ref a16) F in6 0 rfl rfl 19 (by decide) rfl (List.mem_of_getElem? (i := 1) rfl) rfl dX6_log_31 ?_
  refine sw_iconst (pc := 34) (v := 2) F dX6_log_34 rfl ?_
  refine sw_lload_n (pc := 35) F dX6_log_35 rfl 2 rfl ?_
  refine sw_callv (pc := 36) (wr := [(h0, .inr (6, [.int tm, .int ch, .ref a1, .ref a2, .ref a3, .ref a4, .int rg, .int hd, .int df, .ref a5, .ref a8, .long fl, .long ms, .long vo, .ref a9, .ref a10, .ref a13, .ref a14, .ref a15, .ref a16]))]) (k' := 0) (n' := 0) F (sw_runV (R := ({ frames := 2, cells := 0, slots := 0, locals := 47 } : Room)) (q0 := 0) (na := 2) F T.2.1 T.2.2.1 (k_X4_put l G a16 a19 90 30 3 o_4 o_5 o_16 2 v (by decide)) [1, 2] rfl (by decide) gX6_log_X4_put rfl rfl rfl (by decide +kernel) ⟨Nat.le_of_ble_eq_true rfl, Nat.le_of_ble_eq_true rfl⟩ rfl rfl rfl rfl rfl (Nat.le_of_ble_eq_true rfl) dX6_log_36 (Nat.le_of_ble_eq_true rfl) (Nat.le_of_ble_eq_true rfl)) [1, 2] [0] rfl rfl (by decide) (by decide) rfl rfl (fun u_19 h_20 => ?_)
  obtain ⟨o_21, eu_19⟩ : ∃ z, z = u_19 := ⟨_, rfl⟩; subst eu_19
  have e_22 : o_21 = f_X4_put_o1 90 30 3 o_4 o_5 o_16 2 v := h_20
  refine sw_eq (ws' := [(h0, .inr (6, [.int tm, .int ch, .ref a1, .ref a2, .ref a3, .ref a4, .int rg, .int hd, .int df, .ref a5, .ref a8, .long fl, .long ms, .long vo, .ref a9, .ref a10, .ref a13, .ref a14, .ref a15, .ref a16])), (a16, .inr (4, [.int 30, .int 3, .ref a19, .int o_4, .int o_5])), (a19, .inl (G.2.1.2, 90, .inr (.inl o_21)))]) (lv' := [(0, .ref h0), (1, .int q), (2, .long v)]) (st' := []) rfl rfl rfl ?_
  subst e_22
  subst e_17
  subst e_12
  subst e_7
  subst e_6
  exact sw_vret (pc := 39) F T ((f_X4_addRow_o0_3 30 eo en), (f_X4_addRow_o0_4 30 en), (f_X4_put_o1 90 30 3 (f_X4_addRow_o0_3 30 eo en) (f_X4_addRow_o0_4 30 en) (f_X4_put_o1 90 30 3 (f_X4_addRow_o0_3 30 eo en) (f_X4_addRow_o0_4 30 en) (f_X4_put_o1 90 30 3 (f_X4_addRow_o0_3 30 eo en) (f_X4_addRow_o0_4 30 en) ef 0 tm.toInt64) 1 q.toInt64) 2 v)) ⟨rfl, rfl, rfl⟩ rfl dX6_log_39
def f_X6_logSetting_o1_3 (eo : Int32) (en : Int32) : Int32 := (f_X6_log_o1_3 eo en)
def f_X6_logSetting_o1_4 (en : Int32) : Int32 := (f_X6_log_o1_4 en)
def f_X6_logSetting_o2 (tm : Int32) (eo : Int32) (en : Int32) (ef : Nat → Int64) (q : Int32) : Nat → Int64 := (f_X6_log_o2 tm eo en ef 5 q.toInt64)
set_option maxHeartbeats 4000000 in
set_option maxRecDepth 100000 in
theorem k_X6_logSetting (l : Launch) (G : sw_E) (h0 : Nat) (a1 : Nat) (a2 : Nat) (a3 : Nat) (a4 : Nat) (a5 : Nat) (a8 : Nat) (a9 : Nat) (a10 : Nat) (a13 : Nat) (a14 : Nat) (a15 : Nat) (a16 : Nat) (a19 : Nat) (tm : Int32) (ch : Int32) (rg : Int32) (hd : Int32) (df : Int32) (fl : Int64) (ms : Int64) (vo : Int64) (eo : Int32) (en : Int32) (ef : Nat → Int64) (q : Int32)  : sw_M l G yX6_logSetting wsX6_logSetting ({ frames := 3, cells := 0, slots := 0, locals := 70 } : Room) [.ref h0, .int q] [(h0, .inr (6, [.int tm, .int ch, .ref a1, .ref a2, .ref a3, .ref a4, .int rg, .int hd, .int df, .ref a5, .ref a8, .long fl, .long ms, .long vo, .ref a9, .ref a10, .ref a13, .ref a14, .ref a15, .ref a16])), (a16, .inr (4, [.int 30, .int 3, .ref a19, .int eo, .int en])), (a19, .inl (G.2.1.2, 90, .inr (.inl ef)))] (sw_QV G (S := Int32 × Int32 × (Nat → Int64)) (fun (u : Int32 × Int32 × (Nat → Int64)) => u.1 = f_X6_logSetting_o1_3 eo en ∧ u.2.1 = f_X6_logSetting_o1_4 en ∧ u.2.2 = f_X6_logSetting_o2 tm eo en ef q) (fun u => [(h0, .inr (6, [.int tm, .int ch, .ref a1, .ref a2, .ref a3, .ref a4, .int rg, .int hd, .int df, .ref a5, .ref a8, .long fl, .long ms, .long vo, .ref a9, .ref a10, .ref a13, .ref a14, .ref a15, .ref a16])), (a16, .inr (4, [.int 30, .int 3, .ref a19, .int u.1, .int u.2.1])), (a19, .inl (G.2.1.2, 90, .inr (.inl u.2.2)))])) 0 0 := by
  refine sw_start (cc := cX6_logSetting) (maxL := 2) (ret := none) (lv := [(0, .ref h0), (1, .int q)]) (own := RX6) (nm := "logSetting") (by decide +kernel) rfl rfl rfl rfl (Nat.le_of_ble_eq_true rfl) (fun C F T => ?_)
  refine sw_aload_n (pc := 0) F dX6_logSetting_0 rfl 0 rfl ?_
  refine sw_iconst (pc := 1) (v := 5) F dX6_logSetting_1 rfl ?_
  refine sw_iload_n (pc := 2) F dX6_logSetting_2 rfl 1 rfl ?_
  refine sw_i2l (pc := 3) F dX6_logSetting_3 rfl ?_
  refine sw_callv (pc := 4) (wr := []) (k' := 0) (n' := 0) F (sw_runV (R := ({ frames := 3, cells := 0, slots := 0, locals := 70 } : Room)) (q0 := 0) (na := 2) F T.2.1 T.2.2.1 (k_X6_log l G h0 a1 a2 a3 a4 a5 a8 a9 a10 a13 a14 a15 a16 a19 tm ch rg hd df fl ms vo eo en ef 5 q.toInt64) [0, 1, 2] rfl (by decide) gX6_logSetting_X6_log rfl rfl rfl (by decide +kernel) ⟨Nat.le_of_ble_eq_true rfl, Nat.le_of_ble_eq_true rfl⟩ rfl rfl rfl rfl rfl (Nat.le_of_ble_eq_true rfl) dX6_logSetting_4 (Nat.le_of_ble_eq_true rfl) (Nat.le_of_ble_eq_true rfl)) [0, 1, 2] [] rfl rfl (by decide) (by decide) rfl rfl (fun u_2 h_3 => ?_)
  obtain ⟨o_4, o_5, o_6⟩ := u_2
  obtain ⟨e_7, e_8, e_9⟩ : o_4 = f_X6_log_o1_3 eo en ∧ o_5 = f_X6_log_o1_4 en ∧ o_6 = f_X6_log_o2 tm eo en ef 5 q.toInt64 := h_3
  refine sw_eq (ws' := [(h0, .inr (6, [.int tm, .int ch, .ref a1, .ref a2, .ref a3, .ref a4, .int rg, .int hd, .int df, .ref a5, .ref a8, .long fl, .long ms, .long vo, .ref a9, .ref a10, .ref a13, .ref a14, .ref a15, .ref a16])), (a16, .inr (4, [.int 30, .int 3, .ref a19, .int o_4, .int o_5])), (a19, .inl (G.2.1.2, 90, .inr (.inl o_6)))]) (lv' := [(0, .ref h0), (1, .int q)]) (st' := []) rfl rfl rfl ?_
  subst e_9
  subst e_8
  subst e_7
  exact sw_vret (pc := 7) F T ((f_X6_log_o1_3 eo en), (f_X6_log_o1_4 en), (f_X6_log_o2 tm eo en ef 5 q.toInt64)) ⟨rfl, rfl, rfl⟩ rfl dX6_logSetting_7
def f_X6_followTransmitter_0_o1_4 (ts : Int32) (td : Int32) (tr : Int32) (tf : Int32) (tw : Int32) : Int32 := if (f_X8_isFaulty_r tr) = tw then (if (f_X8_isFaulty_r tr) = 0 then ((f_X8_filter_o0_4 0 ts td tr tf)) else (tf)) else (if (f_X8_isFaulty_r tr) = 0 then (if (f_X8_isFaulty_r tr) = 0 then ((f_X8_filter_o0_4 0 ts td tr tf)) else (tf)) else (if (f_X8_isFaulty_r tr) = 0 then ((f_X8_filter_o0_4 0 ts td tr tf)) else (tf)))
def f_X6_followTransmitter_0_o1_5 (tr : Int32) : Int32 := (f_X8_isFaulty_r tr)
def f_X6_followTransmitter_0_o2_3 (tr : Int32) (tw : Int32) (eo : Int32) (en : Int32) : Int32 := if (f_X8_isFaulty_r tr) = tw then (eo) else ((f_X6_log_o1_3 eo en))
def f_X6_followTransmitter_0_o2_4 (tr : Int32) (tw : Int32) (en : Int32) : Int32 := if (f_X8_isFaulty_r tr) = tw then (en) else ((f_X6_log_o1_4 en))
def f_X6_followTransmitter_0_o3 (tm : Int32) (tr : Int32) (tw : Int32) (eo : Int32) (en : Int32) (ef : Nat → Int64) : Nat → Int64 := if (f_X8_isFaulty_r tr) = tw then (ef) else (if (f_X8_isFaulty_r tr) = 0 then ((f_X6_log_o2 tm eo en ef 1 0)) else ((f_X6_log_o2 tm eo en ef 0 0)))
set_option maxHeartbeats 4000000 in
set_option maxRecDepth 100000 in
theorem k_X6_followTransmitter_0 (l : Launch) (G : sw_E) (h0 : Nat) (a1 : Nat) (a2 : Nat) (a3 : Nat) (a4 : Nat) (a5 : Nat) (a8 : Nat) (a9 : Nat) (a10 : Nat) (a13 : Nat) (a14 : Nat) (a15 : Nat) (a16 : Nat) (a19 : Nat) (tm : Int32) (ch : Int32) (rg : Int32) (hd : Int32) (df : Int32) (fl : Int64) (ms : Int64) (vo : Int64) (ts : Int32) (td : Int32) (tr : Int32) (tf : Int32) (tw : Int32) (eo : Int32) (en : Int32) (ef : Nat → Int64) (hd0 : ¬ ((1 : Int32) <<< (td &&& 31)) = 0) : sw_M l G yX6_followTransmitter wsX6_followTransmitter ({ frames := 3, cells := 0, slots := 0, locals := 70 } : Room) [.ref h0, .int 0] [(h0, .inr (6, [.int tm, .int ch, .ref a1, .ref a2, .ref a3, .ref a4, .int rg, .int hd, .int df, .ref a5, .ref a8, .long fl, .long ms, .long vo, .ref a9, .ref a10, .ref a13, .ref a14, .ref a15, .ref a16])), (a1, .inr (8, [.int 0, .int ts, .int td, .int tr, .int tf, .int tw])), (a16, .inr (4, [.int 30, .int 3, .ref a19, .int eo, .int en])), (a19, .inl (G.2.1.2, 90, .inr (.inl ef)))] (sw_QV G (S := Int32 × Int32 × Int32 × Int32 × (Nat → Int64)) (fun (u : Int32 × Int32 × Int32 × Int32 × (Nat → Int64)) => u.1 = f_X6_followTransmitter_0_o1_4 ts td tr tf tw ∧ u.2.1 = f_X6_followTransmitter_0_o1_5 tr ∧ u.2.2.1 = f_X6_followTransmitter_0_o2_3 tr tw eo en ∧ u.2.2.2.1 = f_X6_followTransmitter_0_o2_4 tr tw en ∧ u.2.2.2.2 = f_X6_followTransmitter_0_o3 tm tr tw eo en ef) (fun u => [(h0, .inr (6, [.int tm, .int ch, .ref a1, .ref a2, .ref a3, .ref a4, .int rg, .int hd, .int df, .ref a5, .ref a8, .long fl, .long ms, .long vo, .ref a9, .ref a10, .ref a13, .ref a14, .ref a15, .ref a16])), (a1, .inr (8, [.int 0, .int ts, .int td, .int tr, .int u.1, .int u.2.1])), (a16, .inr (4, [.int 30, .int 3, .ref a19, .int u.2.2.1, .int u.2.2.2.1])), (a19, .inl (G.2.1.2, 90, .inr (.inl u.2.2.2.2)))])) 0 0 := by
  refine sw_start (cc := cX6_followTransmitter) (maxL := 4) (ret := none) (lv := [(0, .ref h0), (1, .int 0)]) (own := RX6) (nm := "followTransmitter") (by decide +kernel) rfl rfl rfl rfl (Nat.le_of_ble_eq_true rfl) (fun C F T => ?_)
  have in8 : ∀ w ∈ u_ws RX8 TX8 6, w ∈ wsX6_followTransmitter := fun w h => List.mem_cons_of_mem _ (List.mem_append_left _ (List.mem_append_left _ (List.mem_append_right _ (h))))
  refine sw_aload_n (pc := 0) F dX6_followTransmitter_0 rfl 0 rfl ?_
  refine sw_iload_n (pc := 1) F dX6_followTransmitter_1 rfl 1 rfl ?_
  refine sw_callr (pc := 2) (wr := [(a1, .inr (8, [.int 0, .int ts, .int td, .int tr, .int tf, .int tw])), (a16, .inr (4, [.int 30, .int 3, .ref a19, .int eo, .int en])), (a19, .inl (G.2.1.2, 90, .inr (.inl ef)))]) (k' := 0) (n' := 0) F (sw_runV (R := ({ frames := 3, cells := 0, slots := 0, locals := 70 } : Room)) (q0 := 0) (na := 1) F T.2.1 T.2.2.1 (k_X6_transmitterAt_0 l G h0 a1 a2 a3 a4 a5 a8 a9 a10 a13 a14 a15 a16 tm ch rg hd df fl ms vo) [0] rfl (by decide) gX6_followTransmitter_X6_transmitterAt rfl rfl rfl (by decide +kernel) ⟨Nat.le_of_ble_eq_true rfl, Nat.le_of_ble_eq_true rfl⟩ rfl rfl rfl rfl rfl (Nat.le_of_ble_eq_true rfl) dX6_followTransmitter_2 (Nat.le_of_ble_eq_true rfl) (Nat.le_of_ble_eq_true rfl)) [0] [1, 2, 3] rfl rfl (by decide) (by decide) rfl rfl (fun r_1 u_2 h_3 => ?_)
  have e_4 : r_1 = a1 := h_3
  refine sw_eqt (v := .ref a1) (by rw [e_4]) ?_
  refine sw_eq (ws' := [(a1, .inr (8, [.int 0, .int ts, .int td, .int tr, .int tf, .int tw])), (a16, .inr (4, [.int 30, .int 3, .ref a19, .int eo, .int en])), (a19, .inl (G.2.1.2, 90, .inr (.inl ef))), (h0, .inr (6, [.int tm, .int ch, .ref a1, .ref a2, .ref a3, .ref a4, .int rg, .int hd, .int df, .ref a5, .ref a8, .long fl, .long ms, .long vo, .ref a9, .ref a10, .ref a13, .ref a14, .ref a15, .ref a16]))]) (lv' := [(0, .ref h0), (1, .int 0)]) (st' := [.ref a1]) rfl rfl rfl ?_
  refine sw_astore_n (pc := 5) (lv' := [(2, .ref a1), (0, .ref h0), (1, .int 0)]) F T.1 dX6_followTransmitter_5 rfl (by decide) rfl ?_
  refine sw_aload_n (pc := 6) F dX6_followTransmitter_6 rfl 0 rfl ?_
  refine sw_calli (pc := 7) (wr := [(a16, .inr (4, [.int 30, .int 3, .ref a19, .int eo, .int en])), (a19, .inl (G.2.1.2, 90, .inr (.inl ef))), (h0, .inr (6, [.int tm, .int ch, .ref a1, .ref a2, .ref a3, .ref a4, .int rg, .int hd, .int df, .ref a5, .ref a8, .long fl, .long ms, .long vo, .ref a9, .ref a10, .ref a13, .ref a14, .ref a15, .ref a16]))]) (k' := 0) (n' := 0) F (sw_runV (R := ({ frames := 3, cells := 0, slots := 0, locals := 70 } : Room)) (q0 := 0) (na := 0) F T.2.1 T.2.2.1 (k_X8_isFaulty l G a1 0 ts td tr tf tw) [0] rfl (by decide) gX6_followTransmitter_X8_isFaulty rfl rfl rfl (by decide +kernel) ⟨Nat.le_of_ble_eq_true rfl, Nat.le_of_ble_eq_true rfl⟩ rfl rfl rfl rfl rfl (Nat.le_of_ble_eq_true rfl) dX6_followTransmitter_7 (Nat.le_of_ble_eq_true rfl) (Nat.le_of_ble_eq_true rfl)) [0] [1, 2, 3] rfl rfl (by decide) (by decide) rfl rfl (fun r_5 u_6 h_7 => ?_)
  have e_8 : r_5 = f_X8_isFaulty_r tr := h_7
  refine sw_eq (ws' := [(a16, .inr (4, [.int 30, .int 3, .ref a19, .int eo, .int en])), (a19, .inl (G.2.1.2, 90, .inr (.inl ef))), (h0, .inr (6, [.int tm, .int ch, .ref a1, .ref a2, .ref a3, .ref a4, .int rg, .int hd, .int df, .ref a5, .ref a8, .long fl, .long ms, .long vo, .ref a9, .ref a10, .ref a13, .ref a14, .ref a15, .ref a16])), (a1, .inr (8, [.int 0, .int ts, .int td, .int tr, .int tf, .int tw]))]) (lv' := [(2, .ref a1), (0, .ref h0), (1, .int 0)]) (st' := [.int r_5]) rfl rfl rfl ?_
  refine sw_istore_n (pc := 10) (lv' := [(3, .int r_5), (2, .ref a1), (0, .ref h0), (1, .int 0)]) F T.1 dX6_followTransmitter_10 rfl (by decide) rfl ?_
  refine sw_iload_n (pc := 11) F dX6_followTransmitter_11 rfl 0 rfl ?_
  refine sw_aload_n (pc := 12) F dX6_followTransmitter_12 rfl 1 rfl ?_
  refine sw_get (pc := 13) (Cn := RX8) (T := TX8) (N := 6) (ci := 8) (v := .int tw) F in8 3 rfl rfl 5 (by decide) rfl (List.mem_of_getElem? (i := 1) rfl) rfl dX6_followTransmitter_13 ?_
  refine sw_icmp_eq (pc := 16) (tgt := 34) F dX6_followTransmitter_16 (by decide) (fun c_9 => ?_) (fun c_9 => ?_)
  · skip
    refine sw_aload_n (pc := 34) F dX6_followTransmitter_34 rfl 1 rfl ?_
    refine sw_iload_n (pc := 35) F dX6_followTransmitter_35 rfl 0 rfl ?_
    refine sw_put (pc := 36) (Cn := RX8) (T := TX8) (N := 6) (ci := 8) (ty0 := tyX8) (ws' := [(a16, .inr (4, [.int 30, .int 3, .ref a19, .int eo, .int en])), (a19, .inl (G.2.1.2, 90, .inr (.inl ef))), (h0, .inr (6, [.int tm, .int ch, .ref a1, .ref a2, .ref a3, .ref a4, .int rg, .int hd, .int df, .ref a5, .ref a8, .long fl, .long ms, .long vo, .ref a9, .ref a10, .ref a13, .ref a14, .ref a15, .ref a16])), (a1, .inr (8, [.int 0, .int ts, .int td, .int tr, .int tf, .int r_5]))]) F in8 tyX8_ok nmX8 3 rfl rfl 5 (by decide) rfl (List.mem_of_getElem? (i := 1) rfl) rfl (sw_nb (by rw [e_8]; exact isFaulty_b _)).1 (sw_nb (by rw [e_8]; exact isFaulty_b _)).2 (Nat.le_of_ble_eq_true rfl) dX6_followTransmitter_36 rfl ?_
    refine sw_iload_n (pc := 39) F dX6_followTransmitter_39 rfl 0 rfl ?_
    refine sw_if_ne (pc := 40) (tgt := 47) F dX6_followTransmitter_40 (by decide) (fun c_10 => ?_) (fun c_10 => ?_)
    · skip
      subst e_8
      refine sw_perm (ws' := [(h0, .inr (6, [.int tm, .int ch, .ref a1, .ref a2, .ref a3, .ref a4, .int rg, .int hd, .int df, .ref a5, .ref a8, .long fl, .long ms, .long vo, .ref a9, .ref a10, .ref a13, .ref a14, .ref a15, .ref a16])), (a1, .inr (8, [.int 0, .int ts, .int td, .int tr, .int tf, .int ((f_X8_isFaulty_r tr))])), (a16, .inr (4, [.int 30, .int 3, .ref a19, .int eo, .int en])), (a19, .inl (G.2.1.2, 90, .inr (.inl ef)))]) [2, 3, 0, 1] (by decide) rfl ?_
      exact sw_vret (pc := 47) F T (tf, (f_X8_isFaulty_r tr), eo, en, ef) ⟨(by unfold f_X6_followTransmitter_0_o1_4; rw [if_pos c_9, if_neg c_10]), rfl, (by unfold f_X6_followTransmitter_0_o2_3; rw [if_pos c_9]), (by unfold f_X6_followTransmitter_0_o2_4; rw [if_pos c_9]), (by unfold f_X6_followTransmitter_0_o3; rw [if_pos c_9])⟩ rfl dX6_followTransmitter_47
    · skip
      refine sw_aload_n (pc := 43) F dX6_followTransmitter_43 rfl 1 rfl ?_
      refine sw_callv (pc := 44) (wr := [(a16, .inr (4, [.int 30, .int 3, .ref a19, .int eo, .int en])), (a19, .inl (G.2.1.2, 90, .inr (.inl ef))), (h0, .inr (6, [.int tm, .int ch, .ref a1, .ref a2, .ref a3, .ref a4, .int rg, .int hd, .int df, .ref a5, .ref a8, .long fl, .long ms, .long vo, .ref a9, .ref a10, .ref a13, .ref a14, .ref a15, .ref a16]))]) (k' := 0) (n' := 0) F (sw_runV (R := ({ frames := 3, cells := 0, slots := 0, locals := 70 } : Room)) (q0 := 0) (na := 0) F T.2.1 T.2.2.1 (k_X8_filter l G a1 0 ts td tr tf r_5 (by assumption)) [3] rfl (by decide) gX6_followTransmitter_X8_filter rfl rfl rfl (by decide +kernel) ⟨Nat.le_of_ble_eq_true rfl, Nat.le_of_ble_eq_true rfl⟩ rfl rfl rfl rfl rfl (Nat.le_of_ble_eq_true rfl) dX6_followTransmitter_44 (Nat.le_of_ble_eq_true rfl) (Nat.le_of_ble_eq_true rfl)) [3] [0, 1, 2] rfl rfl (by decide) (by decide) rfl rfl (fun u_12 h_13 => ?_)
      obtain ⟨o_14, eu_12⟩ : ∃ z, z = u_12 := ⟨_, rfl⟩; subst eu_12
      have e_15 : o_14 = f_X8_filter_o0_4 0 ts td tr tf := h_13
      refine sw_eq (ws' := [(a16, .inr (4, [.int 30, .int 3, .ref a19, .int eo, .int en])), (a19, .inl (G.2.1.2, 90, .inr (.inl ef))), (h0, .inr (6, [.int tm, .int ch, .ref a1, .ref a2, .ref a3, .ref a4, .int rg, .int hd, .int df, .ref a5, .ref a8, .long fl, .long ms, .long vo, .ref a9, .ref a10, .ref a13, .ref a14, .ref a15, .ref a16])), (a1, .inr (8, [.int 0, .int ts, .int td, .int tr, .int o_14, .int r_5]))]) (lv' := [(3, .int r_5), (2, .ref a1), (0, .ref h0), (1, .int 0)]) (st' := []) rfl rfl rfl ?_
      subst e_15
      subst e_8
      refine sw_perm (ws' := [(h0, .inr (6, [.int tm, .int ch, .ref a1, .ref a2, .ref a3, .ref a4, .int rg, .int hd, .int df, .ref a5, .ref a8, .long fl, .long ms, .long vo, .ref a9, .ref a10, .ref a13, .ref a14, .ref a15, .ref a16])), (a1, .inr (8, [.int 0, .int ts, .int td, .int tr, .int ((f_X8_filter_o0_4 0 ts td tr tf)), .int ((f_X8_isFaulty_r tr))])), (a16, .inr (4, [.int 30, .int 3, .ref a19, .int eo, .int en])), (a19, .inl (G.2.1.2, 90, .inr (.inl ef)))]) [2, 3, 0, 1] (by decide) rfl ?_
      exact sw_vret (pc := 47) F T ((f_X8_filter_o0_4 0 ts td tr tf), (f_X8_isFaulty_r tr), eo, en, ef) ⟨(by unfold f_X6_followTransmitter_0_o1_4; rw [if_pos c_9, if_pos c_10]), rfl, (by unfold f_X6_followTransmitter_0_o2_3; rw [if_pos c_9]), (by unfold f_X6_followTransmitter_0_o2_4; rw [if_pos c_9]), (by unfold f_X6_followTransmitter_0_o3; rw [if_pos c_9])⟩ rfl dX6_followTransmitter_47
  · skip
    refine sw_aload_n (pc := 19) F dX6_followTransmitter_19 rfl 2 rfl ?_
    refine sw_iload_n (pc := 20) F dX6_followTransmitter_20 rfl 0 rfl ?_
    refine sw_if_eq (pc := 21) (tgt := 28) F dX6_followTransmitter_21 (by decide) (fun c_16 => ?_) (fun c_16 => ?_)
    · skip
      refine sw_iconst (pc := 28) (v := 1) F dX6_followTransmitter_28 rfl ?_
      refine sw_iload_n (pc := 29) F dX6_followTransmitter_29 rfl 3 rfl ?_
      refine sw_i2l (pc := 30) (v := 0) F dX6_followTransmitter_30 rfl ?_
      refine sw_callv (pc := 31) (wr := [(a1, .inr (8, [.int 0, .int ts, .int td, .int tr, .int tf, .int tw]))]) (k' := 0) (n' := 0) F (sw_runV (R := ({ frames := 3, cells := 0, slots := 0, locals := 70 } : Room)) (q0 := 0) (na := 2) F T.2.1 T.2.2.1 (k_X6_log l G h0 a1 a2 a3 a4 a5 a8 a9 a10 a13 a14 a15 a16 a19 tm ch rg hd df fl ms vo eo en ef 1 0) [2, 0, 1] rfl (by decide) gX6_followTransmitter_X6_log rfl rfl rfl (by decide +kernel) ⟨Nat.le_of_ble_eq_true rfl, Nat.le_of_ble_eq_true rfl⟩ rfl rfl rfl rfl rfl (Nat.le_of_ble_eq_true rfl) dX6_followTransmitter_31 (Nat.le_of_ble_eq_true rfl) (Nat.le_of_ble_eq_true rfl)) [2, 0, 1] [3] rfl rfl (by decide) (by decide) rfl rfl (fun u_18 h_19 => ?_)
      obtain ⟨o_20, o_21, o_22⟩ := u_18
      obtain ⟨e_23, e_24, e_25⟩ : o_20 = f_X6_log_o1_3 eo en ∧ o_21 = f_X6_log_o1_4 en ∧ o_22 = f_X6_log_o2 tm eo en ef 1 0 := h_19
      refine sw_eq (ws' := [(a1, .inr (8, [.int 0, .int ts, .int td, .int tr, .int tf, .int tw])), (h0, .inr (6, [.int tm, .int ch, .ref a1, .ref a2, .ref a3, .ref a4, .int rg, .int hd, .int df, .ref a5, .ref a8, .long fl, .long ms, .long vo, .ref a9, .ref a10, .ref a13, .ref a14, .ref a15, .ref a16])), (a16, .inr (4, [.int 30, .int 3, .ref a19, .int o_20, .int o_21])), (a19, .inl (G.2.1.2, 90, .inr (.inl o_22)))]) (lv' := [(3, .int r_5), (2, .ref a1), (0, .ref h0), (1, .int 0)]) (st' := []) rfl rfl rfl ?_
      refine sw_aload_n (pc := 34) F dX6_followTransmitter_34 rfl 1 rfl ?_
      refine sw_iload_n (pc := 35) F dX6_followTransmitter_35 rfl 0 rfl ?_
      refine sw_put (pc := 36) (Cn := RX8) (T := TX8) (N := 6) (ci := 8) (ty0 := tyX8) (ws' := [(a1, .inr (8, [.int 0, .int ts, .int td, .int tr, .int tf, .int r_5])), (h0, .inr (6, [.int tm, .int ch, .ref a1, .ref a2, .ref a3, .ref a4, .int rg, .int hd, .int df, .ref a5, .ref a8, .long fl, .long ms, .long vo, .ref a9, .ref a10, .ref a13, .ref a14, .ref a15, .ref a16])), (a16, .inr (4, [.int 30, .int 3, .ref a19, .int o_20, .int o_21])), (a19, .inl (G.2.1.2, 90, .inr (.inl o_22)))]) F in8 tyX8_ok nmX8 0 rfl rfl 5 (by decide) rfl (List.mem_of_getElem? (i := 1) rfl) rfl (sw_nb (by rw [e_8]; exact isFaulty_b _)).1 (sw_nb (by rw [e_8]; exact isFaulty_b _)).2 (Nat.le_of_ble_eq_true rfl) dX6_followTransmitter_36 rfl ?_
      refine sw_iload_n (pc := 39) F dX6_followTransmitter_39 rfl 0 rfl ?_
      refine sw_if_ne (pc := 40) (tgt := 47) F dX6_followTransmitter_40 (by decide) (fun c_26 => ?_) (fun c_26 => ?_)
      · skip
        subst e_25
        subst e_24
        subst e_23
        subst e_8
        refine sw_perm (ws' := [(h0, .inr (6, [.int tm, .int ch, .ref a1, .ref a2, .ref a3, .ref a4, .int rg, .int hd, .int df, .ref a5, .ref a8, .long fl, .long ms, .long vo, .ref a9, .ref a10, .ref a13, .ref a14, .ref a15, .ref a16])), (a1, .inr (8, [.int 0, .int ts, .int td, .int tr, .int tf, .int ((f_X8_isFaulty_r tr))])), (a16, .inr (4, [.int 30, .int 3, .ref a19, .int ((f_X6_log_o1_3 eo en)), .int ((f_X6_log_o1_4 en))])), (a19, .inl (G.2.1.2, 90, .inr (.inl ((f_X6_log_o2 tm eo en ef 1 0)))))]) [1, 0, 2, 3] (by decide) rfl ?_
        exact sw_vret (pc := 47) F T (tf, (f_X8_isFaulty_r tr), (f_X6_log_o1_3 eo en), (f_X6_log_o1_4 en), (f_X6_log_o2 tm eo en ef 1 0)) ⟨(by unfold f_X6_followTransmitter_0_o1_4; rw [if_neg c_9, if_pos c_16, if_neg c_26]), rfl, (by unfold f_X6_followTransmitter_0_o2_3; rw [if_neg c_9]), (by unfold f_X6_followTransmitter_0_o2_4; rw [if_neg c_9]), (by unfold f_X6_followTransmitter_0_o3; rw [if_neg c_9, if_pos c_16])⟩ rfl dX6_followTransmitter_47
      · skip
        refine sw_aload_n (pc := 43) F dX6_followTransmitter_43 rfl 1 rfl ?_
        refine sw_callv (pc := 44) (wr := [(h0, .inr (6, [.int tm, .int ch, .ref a1, .ref a2, .ref a3, .ref a4, .int rg, .int hd, .int df, .ref a5, .ref a8, .long fl, .long ms, .long vo, .ref a9, .ref a10, .ref a13, .ref a14, .ref a15, .ref a16])), (a16, .inr (4, [.int 30, .int 3, .ref a19, .int o_20, .int o_21])), (a19, .inl (G.2.1.2, 90, .inr (.inl o_22)))]) (k' := 0) (n' := 0) F (sw_runV (R := ({ frames := 3, cells := 0, slots := 0, locals := 70 } : Room)) (q0 := 0) (na := 0) F T.2.1 T.2.2.1 (k_X8_filter l G a1 0 ts td tr tf r_5 (by assumption)) [0] rfl (by decide) gX6_followTransmitter_X8_filter rfl rfl rfl (by decide +kernel) ⟨Nat.le_of_ble_eq_true rfl, Nat.le_of_ble_eq_true rfl⟩ rfl rfl rfl rfl rfl (Nat.le_of_ble_eq_true rfl) dX6_followTransmitter_44 (Nat.le_of_ble_eq_true rfl) (Nat.le_of_ble_eq_true rfl)) [0] [1, 2, 3] rfl rfl (by decide) (by decide) rfl rfl (fun u_28 h_29 => ?_)
        obtain ⟨o_30, eu_28⟩ : ∃ z, z = u_28 := ⟨_, rfl⟩; subst eu_28
        have e_31 : o_30 = f_X8_filter_o0_4 0 ts td tr tf := h_29
        refine sw_eq (ws' := [(h0, .inr (6, [.int tm, .int ch, .ref a1, .ref a2, .ref a3, .ref a4, .int rg, .int hd, .int df, .ref a5, .ref a8, .long fl, .long ms, .long vo, .ref a9, .ref a10, .ref a13, .ref a14, .ref a15, .ref a16])), (a16, .inr (4, [.int 30, .int 3, .ref a19, .int o_20, .int o_21])), (a19, .inl (G.2.1.2, 90, .inr (.inl o_22))), (a1, .inr (8, [.int 0, .int ts, .int td, .int tr, .int o_30, .int r_5]))]) (lv' := [(3, .int r_5), (2, .ref a1), (0, .ref h0), (1, .int 0)]) (st' := []) rfl rfl rfl ?_
        subst e_31
        subst e_25
        subst e_24
        subst e_23
        subst e_8
        refine sw_perm (ws' := [(h0, .inr (6, [.int tm, .int ch, .ref a1, .ref a2, .ref a3, .ref a4, .int rg, .int hd, .int df, .ref a5, .ref a8, .long fl, .long ms, .long vo, .ref a9, .ref a10, .ref a13, .ref a14, .ref a15, .ref a16])), (a1, .inr (8, [.int 0, .int ts, .int td, .int tr, .int ((f_X8_filter_o0_4 0 ts td tr tf)), .int ((f_X8_isFaulty_r tr))])), (a16, .inr (4, [.int 30, .int 3, .ref a19, .int ((f_X6_log_o1_3 eo en)), .int ((f_X6_log_o1_4 en))])), (a19, .inl (G.2.1.2, 90, .inr (.inl ((f_X6_log_o2 tm eo en ef 1 0)))))]) [0, 3, 1, 2] (by decide) rfl ?_
        exact sw_vret (pc := 47) F T ((f_X8_filter_o0_4 0 ts td tr tf), (f_X8_isFaulty_r tr), (f_X6_log_o1_3 eo en), (f_X6_log_o1_4 en), (f_X6_log_o2 tm eo en ef 1 0)) ⟨(by unfold f_X6_followTransmitter_0_o1_4; rw [if_neg c_9, if_pos c_16, if_pos c_26]), rfl, (by unfold f_X6_followTransmitter_0_o2_3; rw [if_neg c_9]), (by unfold f_X6_followTransmitter_0_o2_4; rw [if_neg c_9]), (by unfold f_X6_followTransmitter_0_o3; rw [if_neg c_9, if_pos c_16])⟩ rfl dX6_followTransmitter_47
    · skip
      refine sw_iconst (pc := 24) (v := 0) F dX6_followTransmitter_24 rfl ?_
      refine sw_goto (pc := 25) (tgt := 29) F dX6_followTransmitter_25 (by decide) ?_
      refine sw_iload_n (pc := 29) F dX6_followTransmitter_29 rfl 3 rfl ?_
      refine sw_i2l (pc := 30) (v := 0) F dX6_followTransmitter_30 rfl ?_
      refine sw_callv (pc := 31) (wr := [(a1, .inr (8, [.int 0, .int ts, .int td, .int tr, .int tf, .int tw]))]) (k' := 0) (n' := 0) F (sw_runV (R := ({ frames := 3, cells := 0, slots := 0, locals := 70 } : Room)) (q0 := 0) (na := 2) F T.2.1 T.2.2.1 (k_X6_log l G h0 a1 a2 a3 a4 a5 a8 a9 a10 a13 a14 a15 a16 a19 tm ch rg hd df fl ms vo eo en ef 0 0) [2, 0, 1] rfl (by decide) gX6_followTransmitter_X6_log rfl rfl rfl (by decide +kernel) ⟨Nat.le_of_ble_eq_true rfl, Nat.le_of_ble_eq_true rfl⟩ rfl rfl rfl rfl rfl (Nat.le_of_ble_eq_true rfl) dX6_followTransmitter_31 (Nat.le_of_ble_eq_true rfl) (Nat.le_of_ble_eq_true rfl)) [2, 0, 1] [3] rfl rfl (by decide) (by decide) rfl rfl (fun u_33 h_34 => ?_)
      obtain ⟨o_35, o_36, o_37⟩ := u_33
      obtain ⟨e_38, e_39, e_40⟩ : o_35 = f_X6_log_o1_3 eo en ∧ o_36 = f_X6_log_o1_4 en ∧ o_37 = f_X6_log_o2 tm eo en ef 0 0 := h_34
      refine sw_eq (ws' := [(a1, .inr (8, [.int 0, .int ts, .int td, .int tr, .int tf, .int tw])), (h0, .inr (6, [.int tm, .int ch, .ref a1, .ref a2, .ref a3, .ref a4, .int rg, .int hd, .int df, .ref a5, .ref a8, .long fl, .long ms, .long vo, .ref a9, .ref a10, .ref a13, .ref a14, .ref a15, .ref a16])), (a16, .inr (4, [.int 30, .int 3, .ref a19, .int o_35, .int o_36])), (a19, .inl (G.2.1.2, 90, .inr (.inl o_37)))]) (lv' := [(3, .int r_5), (2, .ref a1), (0, .ref h0), (1, .int 0)]) (st' := []) rfl rfl rfl ?_
      refine sw_aload_n (pc := 34) F dX6_followTransmitter_34 rfl 1 rfl ?_
      refine sw_iload_n (pc := 35) F dX6_followTransmitter_35 rfl 0 rfl ?_
      refine sw_put (pc := 36) (Cn := RX8) (T := TX8) (N := 6) (ci := 8) (ty0 := tyX8) (ws' := [(a1, .inr (8, [.int 0, .int ts, .int td, .int tr, .int tf, .int r_5])), (h0, .inr (6, [.int tm, .int ch, .ref a1, .ref a2, .ref a3, .ref a4, .int rg, .int hd, .int df, .ref a5, .ref a8, .long fl, .long ms, .long vo, .ref a9, .ref a10, .ref a13, .ref a14, .ref a15, .ref a16])), (a16, .inr (4, [.int 30, .int 3, .ref a19, .int o_35, .int o_36])), (a19, .inl (G.2.1.2, 90, .inr (.inl o_37)))]) F in8 tyX8_ok nmX8 0 rfl rfl 5 (by decide) rfl (List.mem_of_getElem? (i := 1) rfl) rfl (sw_nb (by rw [e_8]; exact isFaulty_b _)).1 (sw_nb (by rw [e_8]; exact isFaulty_b _)).2 (Nat.le_of_ble_eq_true rfl) dX6_followTransmitter_36 rfl ?_
      refine sw_iload_n (pc := 39) F dX6_followTransmitter_39 rfl 0 rfl ?_
      refine sw_if_ne (pc := 40) (tgt := 47) F dX6_followTransmitter_40 (by decide) (fun c_41 => ?_) (fun c_41 => ?_)
      · skip
        subst e_40
        subst e_39
        subst e_38
        subst e_8
        refine sw_perm (ws' := [(h0, .inr (6, [.int tm, .int ch, .ref a1, .ref a2, .ref a3, .ref a4, .int rg, .int hd, .int df, .ref a5, .ref a8, .long fl, .long ms, .long vo, .ref a9, .ref a10, .ref a13, .ref a14, .ref a15, .ref a16])), (a1, .inr (8, [.int 0, .int ts, .int td, .int tr, .int tf, .int ((f_X8_isFaulty_r tr))])), (a16, .inr (4, [.int 30, .int 3, .ref a19, .int ((f_X6_log_o1_3 eo en)), .int ((f_X6_log_o1_4 en))])), (a19, .inl (G.2.1.2, 90, .inr (.inl ((f_X6_log_o2 tm eo en ef 0 0)))))]) [1, 0, 2, 3] (by decide) rfl ?_
        exact sw_vret (pc := 47) F T (tf, (f_X8_isFaulty_r tr), (f_X6_log_o1_3 eo en), (f_X6_log_o1_4 en), (f_X6_log_o2 tm eo en ef 0 0)) ⟨(by unfold f_X6_followTransmitter_0_o1_4; rw [if_neg c_9, if_neg c_16, if_neg c_41]), rfl, (by unfold f_X6_followTransmitter_0_o2_3; rw [if_neg c_9]), (by unfold f_X6_followTransmitter_0_o2_4; rw [if_neg c_9]), (by unfold f_X6_followTransmitter_0_o3; rw [if_neg c_9, if_neg c_16])⟩ rfl dX6_followTransmitter_47
      · skip
        refine sw_aload_n (pc := 43) F dX6_followTransmitter_43 rfl 1 rfl ?_
        refine sw_callv (pc := 44) (wr := [(h0, .inr (6, [.int tm, .int ch, .ref a1, .ref a2, .ref a3, .ref a4, .int rg, .int hd, .int df, .ref a5, .ref a8, .long fl, .long ms, .long vo, .ref a9, .ref a10, .ref a13, .ref a14, .ref a15, .ref a16])), (a16, .inr (4, [.int 30, .int 3, .ref a19, .int o_35, .int o_36])), (a19, .inl (G.2.1.2, 90, .inr (.inl o_37)))]) (k' := 0) (n' := 0) F (sw_runV (R := ({ frames := 3, cells := 0, slots := 0, locals := 70 } : Room)) (q0 := 0) (na := 0) F T.2.1 T.2.2.1 (k_X8_filter l G a1 0 ts td tr tf r_5 (by assumption)) [0] rfl (by decide) gX6_followTransmitter_X8_filter rfl rfl rfl (by decide +kernel) ⟨Nat.le_of_ble_eq_true rfl, Nat.le_of_ble_eq_true rfl⟩ rfl rfl rfl rfl rfl (Nat.le_of_ble_eq_true rfl) dX6_followTransmitter_44 (Nat.le_of_ble_eq_true rfl) (Nat.le_of_ble_eq_true rfl)) [0] [1, 2, 3] rfl rfl (by decide) (by decide) rfl rfl (fun u_43 h_44 => ?_)
        obtain ⟨o_45, eu_43⟩ : ∃ z, z = u_43 := ⟨_, rfl⟩; subst eu_43
        have e_46 : o_45 = f_X8_filter_o0_4 0 ts td tr tf := h_44
        refine sw_eq (ws' := [(h0, .inr (6, [.int tm, .int ch, .ref a1, .ref a2, .ref a3, .ref a4, .int rg, .int hd, .int df, .ref a5, .ref a8, .long fl, .long ms, .long vo, .ref a9, .ref a10, .ref a13, .ref a14, .ref a15, .ref a16])), (a16, .inr (4, [.int 30, .int 3, .ref a19, .int o_35, .int o_36])), (a19, .inl (G.2.1.2, 90, .inr (.inl o_37))), (a1, .inr (8, [.int 0, .int ts, .int td, .int tr, .int o_45, .int r_5]))]) (lv' := [(3, .int r_5), (2, .ref a1), (0, .ref h0), (1, .int 0)]) (st' := []) rfl rfl rfl ?_
        subst e_46
        subst e_40
        subst e_39
        subst e_38
        subst e_8
        refine sw_perm (ws' := [(h0, .inr (6, [.int tm, .int ch, .ref a1, .ref a2, .ref a3, .ref a4, .int rg, .int hd, .int df, .ref a5, .ref a8, .long fl, .long ms, .long vo, .ref a9, .ref a10, .ref a13, .ref a14, .ref a15, .ref a16])), (a1, .inr (8, [.int 0, .int ts, .int td, .int tr, .int ((f_X8_filter_o0_4 0 ts td tr tf)), .int ((f_X8_isFaulty_r tr))])), (a16, .inr (4, [.int 30, .int 3, .ref a19, .int ((f_X6_log_o1_3 eo en)), .int ((f_X6_log_o1_4 en))])), (a19, .inl (G.2.1.2, 90, .inr (.inl ((f_X6_log_o2 tm eo en ef 0 0)))))]) [0, 3, 1, 2] (by decide) rfl ?_
        exact sw_vret (pc := 47) F T ((f_X8_filter_o0_4 0 ts td tr tf), (f_X8_isFaulty_r tr), (f_X6_log_o1_3 eo en), (f_X6_log_o1_4 en), (f_X6_log_o2 tm eo en ef 0 0)) ⟨(by unfold f_X6_followTransmitter_0_o1_4; rw [if_neg c_9, if_neg c_16, if_pos c_41]), rfl, (by unfold f_X6_followTransmitter_0_o2_3; rw [if_neg c_9]), (by unfold f_X6_followTransmitter_0_o2_4; rw [if_neg c_9]), (by unfold f_X6_followTransmitter_0_o3; rw [if_neg c_9, if_neg c_16])⟩ rfl dX6_followTransmitter_47
def f_X6_followTransmitter_1_o1_4 (ts : Int32) (td : Int32) (tr : Int32) (tf : Int32) (tw : Int32) : Int32 := if (f_X8_isFaulty_r tr) = tw then (if (f_X8_isFaulty_r tr) = 0 then ((f_X8_filter_o0_4 0 ts td tr tf)) else (tf)) else (if (f_X8_isFaulty_r tr) = 0 then (if (f_X8_isFaulty_r tr) = 0 then ((f_X8_filter_o0_4 0 ts td tr tf)) else (tf)) else (if (f_X8_isFaulty_r tr) = 0 then ((f_X8_filter_o0_4 0 ts td tr tf)) else (tf)))
def f_X6_followTransmitter_1_o1_5 (tr : Int32) : Int32 := (f_X8_isFaulty_r tr)
def f_X6_followTransmitter_1_o2_3 (tr : Int32) (tw : Int32) (eo : Int32) (en : Int32) : Int32 := if (f_X8_isFaulty_r tr) = tw then (eo) else ((f_X6_log_o1_3 eo en))
def f_X6_followTransmitter_1_o2_4 (tr : Int32) (tw : Int32) (en : Int32) : Int32 := if (f_X8_isFaulty_r tr) = tw then (en) else ((f_X6_log_o1_4 en))
def f_X6_followTransmitter_1_o3 (tm : Int32) (tr : Int32) (tw : Int32) (eo : Int32) (en : Int32) (ef : Nat → Int64) : Nat → Int64 := if (f_X8_isFaulty_r tr) = tw then (ef) else (if (f_X8_isFaulty_r tr) = 0 then ((f_X6_log_o2 tm eo en ef 1 1)) else ((f_X6_log_o2 tm eo en ef 0 1)))
set_option maxHeartbeats 4000000 in
set_option maxRecDepth 100000 in
theorem k_X6_followTransmitter_1 (l : Launch) (G : sw_E) (h0 : Nat) (a1 : Nat) (a2 : Nat) (a3 : Nat) (a4 : Nat) (a5 : Nat) (a8 : Nat) (a9 : Nat) (a10 : Nat) (a13 : Nat) (a14 : Nat) (a15 : Nat) (a16 : Nat) (a19 : Nat) (tm : Int32) (ch : Int32) (rg : Int32) (hd : Int32) (df : Int32) (fl : Int64) (ms : Int64) (vo : Int64) (ts : Int32) (td : Int32) (tr : Int32) (tf : Int32) (tw : Int32) (eo : Int32) (en : Int32) (ef : Nat → Int64) (hd0 : ¬ ((1 : Int32) <<< (td &&& 31)) = 0) : sw_M l G yX6_followTransmitter wsX6_followTransmitter ({ frames := 3, cells := 0, slots := 0, locals := 70 } : Room) [.ref h0, .int 1] [(h0, .inr (6, [.int tm, .int ch, .ref a1, .ref a2, .ref a3, .ref a4, .int rg, .int hd, .int df, .ref a5, .ref a8, .long fl, .long ms, .long vo, .ref a9, .ref a10, .ref a13, .ref a14, .ref a15, .ref a16])), (a2, .inr (8, [.int 0, .int ts, .int td, .int tr, .int tf, .int tw])), (a16, .inr (4, [.int 30, .int 3, .ref a19, .int eo, .int en])), (a19, .inl (G.2.1.2, 90, .inr (.inl ef)))] (sw_QV G (S := Int32 × Int32 × Int32 × Int32 × (Nat → Int64)) (fun (u : Int32 × Int32 × Int32 × Int32 × (Nat → Int64)) => u.1 = f_X6_followTransmitter_1_o1_4 ts td tr tf tw ∧ u.2.1 = f_X6_followTransmitter_1_o1_5 tr ∧ u.2.2.1 = f_X6_followTransmitter_1_o2_3 tr tw eo en ∧ u.2.2.2.1 = f_X6_followTransmitter_1_o2_4 tr tw en ∧ u.2.2.2.2 = f_X6_followTransmitter_1_o3 tm tr tw eo en ef) (fun u => [(h0, .inr (6, [.int tm, .int ch, .ref a1, .ref a2, .ref a3, .ref a4, .int rg, .int hd, .int df, .ref a5, .ref a8, .long fl, .long ms, .long vo, .ref a9, .ref a10, .ref a13, .ref a14, .ref a15, .ref a16])), (a2, .inr (8, [.int 0, .int ts, .int td, .int tr, .int u.1, .int u.2.1])), (a16, .inr (4, [.int 30, .int 3, .ref a19, .int u.2.2.1, .int u.2.2.2.1])), (a19, .inl (G.2.1.2, 90, .inr (.inl u.2.2.2.2)))])) 0 0 := by
  refine sw_start (cc := cX6_followTransmitter) (maxL := 4) (ret := none) (lv := [(0, .ref h0), (1, .int 1)]) (own := RX6) (nm := "followTransmitter") (by decide +kernel) rfl rfl rfl rfl (Nat.le_of_ble_eq_true rfl) (fun C F T => ?_)
  have in8 : ∀ w ∈ u_ws RX8 TX8 6, w ∈ wsX6_followTransmitter := fun w h => List.mem_cons_of_mem _ (List.mem_append_left _ (List.mem_append_left _ (List.mem_append_right _ (h))))
  refine sw_aload_n (pc := 0) F dX6_followTransmitter_0 rfl 0 rfl ?_
  refine sw_iload_n (pc := 1) F dX6_followTransmitter_1 rfl 1 rfl ?_
  refine sw_callr (pc := 2) (wr := [(a2, .inr (8, [.int 0, .int ts, .int td, .int tr, .int tf, .int tw])), (a16, .inr (4, [.int 30, .int 3, .ref a19, .int eo, .int en])), (a19, .inl (G.2.1.2, 90, .inr (.inl ef)))]) (k' := 0) (n' := 0) F (sw_runV (R := ({ frames := 3, cells := 0, slots := 0, locals := 70 } : Room)) (q0 := 0) (na := 1) F T.2.1 T.2.2.1 (k_X6_transmitterAt_1 l G h0 a1 a2 a3 a4 a5 a8 a9 a10 a13 a14 a15 a16 tm ch rg hd df fl ms vo) [0] rfl (by decide) gX6_followTransmitter_X6_transmitterAt rfl rfl rfl (by decide +kernel) ⟨Nat.le_of_ble_eq_true rfl, Nat.le_of_ble_eq_true rfl⟩ rfl rfl rfl rfl rfl (Nat.le_of_ble_eq_true rfl) dX6_followTransmitter_2 (Nat.le_of_ble_eq_true rfl) (Nat.le_of_ble_eq_true rfl)) [0] [1, 2, 3] rfl rfl (by decide) (by decide) rfl rfl (fun r_1 u_2 h_3 => ?_)
  have e_4 : r_1 = a2 := h_3
  refine sw_eqt (v := .ref a2) (by rw [e_4]) ?_
  refine sw_eq (ws' := [(a2, .inr (8, [.int 0, .int ts, .int td, .int tr, .int tf, .int tw])), (a16, .inr (4, [.int 30, .int 3, .ref a19, .int eo, .int en])), (a19, .inl (G.2.1.2, 90, .inr (.inl ef))), (h0, .inr (6, [.int tm, .int ch, .ref a1, .ref a2, .ref a3, .ref a4, .int rg, .int hd, .int df, .ref a5, .ref a8, .long fl, .long ms, .long vo, .ref a9, .ref a10, .ref a13, .ref a14, .ref a15, .ref a16]))]) (lv' := [(0, .ref h0), (1, .int 1)]) (st' := [.ref a2]) rfl rfl rfl ?_
  refine sw_astore_n (pc := 5) (lv' := [(2, .ref a2), (0, .ref h0), (1, .int 1)]) F T.1 dX6_followTransmitter_5 rfl (by decide) rfl ?_
  refine sw_aload_n (pc := 6) F dX6_followTransmitter_6 rfl 0 rfl ?_
  refine sw_calli (pc := 7) (wr := [(a16, .inr (4, [.int 30, .int 3, .ref a19, .int eo, .int en])), (a19, .inl (G.2.1.2, 90, .inr (.inl ef))), (h0, .inr (6, [.int tm, .int ch, .ref a1, .ref a2, .ref a3, .ref a4, .int rg, .int hd, .int df, .ref a5, .ref a8, .long fl, .long ms, .long vo, .ref a9, .ref a10, .ref a13, .ref a14, .ref a15, .ref a16]))]) (k' := 0) (n' := 0) F (sw_runV (R := ({ frames := 3, cells := 0, slots := 0, locals := 70 } : Room)) (q0 := 0) (na := 0) F T.2.1 T.2.2.1 (k_X8_isFaulty l G a2 0 ts td tr tf tw) [0] rfl (by decide) gX6_followTransmitter_X8_isFaulty rfl rfl rfl (by decide +kernel) ⟨Nat.le_of_ble_eq_true rfl, Nat.le_of_ble_eq_true rfl⟩ rfl rfl rfl rfl rfl (Nat.le_of_ble_eq_true rfl) dX6_followTransmitter_7 (Nat.le_of_ble_eq_true rfl) (Nat.le_of_ble_eq_true rfl)) [0] [1, 2, 3] rfl rfl (by decide) (by decide) rfl rfl (fun r_5 u_6 h_7 => ?_)
  have e_8 : r_5 = f_X8_isFaulty_r tr := h_7
  refine sw_eq (ws' := [(a16, .inr (4, [.int 30, .int 3, .ref a19, .int eo, .int en])), (a19, .inl (G.2.1.2, 90, .inr (.inl ef))), (h0, .inr (6, [.int tm, .int ch, .ref a1, .ref a2, .ref a3, .ref a4, .int rg, .int hd, .int df, .ref a5, .ref a8, .long fl, .long ms, .long vo, .ref a9, .ref a10, .ref a13, .ref a14, .ref a15, .ref a16])), (a2, .inr (8, [.int 0, .int ts, .int td, .int tr, .int tf, .int tw]))]) (lv' := [(2, .ref a2), (0, .ref h0), (1, .int 1)]) (st' := [.int r_5]) rfl rfl rfl ?_
  refine sw_istore_n (pc := 10) (lv' := [(3, .int r_5), (2, .ref a2), (0, .ref h0), (1, .int 1)]) F T.1 dX6_followTransmitter_10 rfl (by decide) rfl ?_
  refine sw_iload_n (pc := 11) F dX6_followTransmitter_11 rfl 0 rfl ?_
  refine sw_aload_n (pc := 12) F dX6_followTransmitter_12 rfl 1 rfl ?_
  refine sw_get (pc := 13) (Cn := RX8) (T := TX8) (N := 6) (ci := 8) (v := .int tw) F in8 3 rfl rfl 5 (by decide) rfl (List.mem_of_getElem? (i := 1) rfl) rfl dX6_followTransmitter_13 ?_
  refine sw_icmp_eq (pc := 16) (tgt := 34) F dX6_followTransmitter_16 (by decide) (fun c_9 => ?_) (fun c_9 => ?_)
  · skip
    refine sw_aload_n (pc := 34) F dX6_followTransmitter_34 rfl 1 rfl ?_
    refine sw_iload_n (pc := 35) F dX6_followTransmitter_35 rfl 0 rfl ?_
    refine sw_put (pc := 36) (Cn := RX8) (T := TX8) (N := 6) (ci := 8) (ty0 := tyX8) (ws' := [(a16, .inr (4, [.int 30, .int 3, .ref a19, .int eo, .int en])), (a19, .inl (G.2.1.2, 90, .inr (.inl ef))), (h0, .inr (6, [.int tm, .int ch, .ref a1, .ref a2, .ref a3, .ref a4, .int rg, .int hd, .int df, .ref a5, .ref a8, .long fl, .long ms, .long vo, .ref a9, .ref a10, .ref a13, .ref a14, .ref a15, .ref a16])), (a2, .inr (8, [.int 0, .int ts, .int td, .int tr, .int tf, .int r_5]))]) F in8 tyX8_ok nmX8 3 rfl rfl 5 (by decide) rfl (List.mem_of_getElem? (i := 1) rfl) rfl (sw_nb (by rw [e_8]; exact isFaulty_b _)).1 (sw_nb (by rw [e_8]; exact isFaulty_b _)).2 (Nat.le_of_ble_eq_true rfl) dX6_followTransmitter_36 rfl ?_
    refine sw_iload_n (pc := 39) F dX6_followTransmitter_39 rfl 0 rfl ?_
    refine sw_if_ne (pc := 40) (tgt := 47) F dX6_followTransmitter_40 (by decide) (fun c_10 => ?_) (fun c_10 => ?_)
    · skip
      subst e_8
      refine sw_perm (ws' := [(h0, .inr (6, [.int tm, .int ch, .ref a1, .ref a2, .ref a3, .ref a4, .int rg, .int hd, .int df, .ref a5, .ref a8, .long fl, .long ms, .long vo, .ref a9, .ref a10, .ref a13, .ref a14, .ref a15, .ref a16])), (a2, .inr (8, [.int 0, .int ts, .int td, .int tr, .int tf, .int ((f_X8_isFaulty_r tr))])), (a16, .inr (4, [.int 30, .int 3, .ref a19, .int eo, .int en])), (a19, .inl (G.2.1.2, 90, .inr (.inl ef)))]) [2, 3, 0, 1] (by decide) rfl ?_
      exact sw_vret (pc := 47) F T (tf, (f_X8_isFaulty_r tr), eo, en, ef) ⟨(by unfold f_X6_followTransmitter_1_o1_4; rw [if_pos c_9, if_neg c_10]), rfl, (by unfold f_X6_followTransmitter_1_o2_3; rw [if_pos c_9]), (by unfold f_X6_followTransmitter_1_o2_4; rw [if_pos c_9]), (by unfold f_X6_followTransmitter_1_o3; rw [if_pos c_9])⟩ rfl dX6_followTransmitter_47
    · skip
      refine sw_aload_n (pc := 43) F dX6_followTransmitter_43 rfl 1 rfl ?_
      refine sw_callv (pc := 44) (wr := [(a16, .inr (4, [.int 30, .int 3, .ref a19, .int eo, .int en])), (a19, .inl (G.2.1.2, 90, .inr (.inl ef))), (h0, .inr (6, [.int tm, .int ch, .ref a1, .ref a2, .ref a3, .ref a4, .int rg, .int hd, .int df, .ref a5, .ref a8, .long fl, .long ms, .long vo, .ref a9, .ref a10, .ref a13, .ref a14, .ref a15, .ref a16]))]) (k' := 0) (n' := 0) F (sw_runV (R := ({ frames := 3, cells := 0, slots := 0, locals := 70 } : Room)) (q0 := 0) (na := 0) F T.2.1 T.2.2.1 (k_X8_filter l G a2 0 ts td tr tf r_5 (by assumption)) [3] rfl (by decide) gX6_followTransmitter_X8_filter rfl rfl rfl (by decide +kernel) ⟨Nat.le_of_ble_eq_true rfl, Nat.le_of_ble_eq_true rfl⟩ rfl rfl rfl rfl rfl (Nat.le_of_ble_eq_true rfl) dX6_followTransmitter_44 (Nat.le_of_ble_eq_true rfl) (Nat.le_of_ble_eq_true rfl)) [3] [0, 1, 2] rfl rfl (by decide) (by decide) rfl rfl (fun u_12 h_13 => ?_)
      obtain ⟨o_14, eu_12⟩ : ∃ z, z = u_12 := ⟨_, rfl⟩; subst eu_12
      have e_15 : o_14 = f_X8_filter_o0_4 0 ts td tr tf := h_13
      refine sw_eq (ws' := [(a16, .inr (4, [.int 30, .int 3, .ref a19, .int eo, .int en])), (a19, .inl (G.2.1.2, 90, .inr (.inl ef))), (h0, .inr (6, [.int tm, .int ch, .ref a1, .ref a2, .ref a3, .ref a4, .int rg, .int hd, .int df, .ref a5, .ref a8, .long fl, .long ms, .long vo, .ref a9, .ref a10, .ref a13, .ref a14, .ref a15, .ref a16])), (a2, .inr (8, [.int 0, .int ts, .int td, .int tr, .int o_14, .int r_5]))]) (lv' := [(3, .int r_5), (2, .ref a2), (0, .ref h0), (1, .int 1)]) (st' := []) rfl rfl rfl ?_
      subst e_15
      subst e_8
      refine sw_perm (ws' := [(h0, .inr (6, [.int tm, .int ch, .ref a1, .ref a2, .ref a3, .ref a4, .int rg, .int hd, .int df, .ref a5, .ref a8, .long fl, .long ms, .long vo, .ref a9, .ref a10, .ref a13, .ref a14, .ref a15, .ref a16])), (a2, .inr (8, [.int 0, .int ts, .int td, .int tr, .int ((f_X8_filter_o0_4 0 ts td tr tf)), .int ((f_X8_isFaulty_r tr))])), (a16, .inr (4, [.int 30, .int 3, .ref a19, .int eo, .int en])), (a19, .inl (G.2.1.2, 90, .inr (.inl ef)))]) [2, 3, 0, 1] (by decide) rfl ?_
      exact sw_vret (pc := 47) F T ((f_X8_filter_o0_4 0 ts td tr tf), (f_X8_isFaulty_r tr), eo, en, ef) ⟨(by unfold f_X6_followTransmitter_1_o1_4; rw [if_pos c_9, if_pos c_10]), rfl, (by unfold f_X6_followTransmitter_1_o2_3; rw [if_pos c_9]), (by unfold f_X6_followTransmitter_1_o2_4; rw [if_pos c_9]), (by unfold f_X6_followTransmitter_1_o3; rw [if_pos c_9])⟩ rfl dX6_followTransmitter_47
  · skip
    refine sw_aload_n (pc := 19) F dX6_followTransmitter_19 rfl 2 rfl ?_
    refine sw_iload_n (pc := 20) F dX6_followTransmitter_20 rfl 0 rfl ?_
    refine sw_if_eq (pc := 21) (tgt := 28) F dX6_followTransmitter_21 (by decide) (fun c_16 => ?_) (fun c_16 => ?_)
    · skip
      refine sw_iconst (pc := 28) (v := 1) F dX6_followTransmitter_28 rfl ?_
      refine sw_iload_n (pc := 29) F dX6_followTransmitter_29 rfl 3 rfl ?_
      refine sw_i2l (pc := 30) (v := 1) F dX6_followTransmitter_30 rfl ?_
      refine sw_callv (pc := 31) (wr := [(a2, .inr (8, [.int 0, .int ts, .int td, .int tr, .int tf, .int tw]))]) (k' := 0) (n' := 0) F (sw_runV (R := ({ frames := 3, cells := 0, slots := 0, locals := 70 } : Room)) (q0 := 0) (na := 2) F T.2.1 T.2.2.1 (k_X6_log l G h0 a1 a2 a3 a4 a5 a8 a9 a10 a13 a14 a15 a16 a19 tm ch rg hd df fl ms vo eo en ef 1 1) [2, 0, 1] rfl (by decide) gX6_followTransmitter_X6_log rfl rfl rfl (by decide +kernel) ⟨Nat.le_of_ble_eq_true rfl, Nat.le_of_ble_eq_true rfl⟩ rfl rfl rfl rfl rfl (Nat.le_of_ble_eq_true rfl) dX6_followTransmitter_31 (Nat.le_of_ble_eq_true rfl) (Nat.le_of_ble_eq_true rfl)) [2, 0, 1] [3] rfl rfl (by decide) (by decide) rfl rfl (fun u_18 h_19 => ?_)
      obtain ⟨o_20, o_21, o_22⟩ := u_18
      obtain ⟨e_23, e_24, e_25⟩ : o_20 = f_X6_log_o1_3 eo en ∧ o_21 = f_X6_log_o1_4 en ∧ o_22 = f_X6_log_o2 tm eo en ef 1 1 := h_19
      refine sw_eq (ws' := [(a2, .inr (8, [.int 0, .int ts, .int td, .int tr, .int tf, .int tw])), (h0, .inr (6, [.int tm, .int ch, .ref a1, .ref a2, .ref a3, .ref a4, .int rg, .int hd, .int df, .ref a5, .ref a8, .long fl, .long ms, .long vo, .ref a9, .ref a10, .ref a13, .ref a14, .ref a15, .ref a16])), (a16, .inr (4, [.int 30, .int 3, .ref a19, .int o_20, .int o_21])), (a19, .inl (G.2.1.2, 90, .inr (.inl o_22)))]) (lv' := [(3, .int r_5), (2, .ref a2), (0, .ref h0), (1, .int 1)]) (st' := []) rfl rfl rfl ?_
      refine sw_aload_n (pc := 34) F dX6_followTransmitter_34 rfl 1 rfl ?_
      refine sw_iload_n (pc := 35) F dX6_followTransmitter_35 rfl 0 rfl ?_
      refine sw_put (pc := 36) (Cn := RX8) (T := TX8) (N := 6) (ci := 8) (ty0 := tyX8) (ws' := [(a2, .inr (8, [.int 0, .int ts, .int td, .int tr, .int tf, .int r_5])), (h0, .inr (6, [.int tm, .int ch, .ref a1, .ref a2, .ref a3, .ref a4, .int rg, .int hd, .int df, .ref a5, .ref a8, .long fl, .long ms, .long vo, .ref a9, .ref a10, .ref a13, .ref a14, .ref a15, .ref a16])), (a16, .inr (4, [.int 30, .int 3, .ref a19, .int o_20, .int o_21])), (a19, .inl (G.2.1.2, 90, .inr (.inl o_22)))]) F in8 tyX8_ok nmX8 0 rfl rfl 5 (by decide) rfl (List.mem_of_getElem? (i := 1) rfl) rfl (sw_nb (by rw [e_8]; exact isFaulty_b _)).1 (sw_nb (by rw [e_8]; exact isFaulty_b _)).2 (Nat.le_of_ble_eq_true rfl) dX6_followTransmitter_36 rfl ?_
      refine sw_iload_n (pc := 39) F dX6_followTransmitter_39 rfl 0 rfl ?_
      refine sw_if_ne (pc := 40) (tgt := 47) F dX6_followTransmitter_40 (by decide) (fun c_26 => ?_) (fun c_26 => ?_)
      · skip
        subst e_25
        subst e_24
        subst e_23
        subst e_8
        refine sw_perm (ws' := [(h0, .inr (6, [.int tm, .int ch, .ref a1, .ref a2, .ref a3, .ref a4, .int rg, .int hd, .int df, .ref a5, .ref a8, .long fl, .long ms, .long vo, .ref a9, .ref a10, .ref a13, .ref a14, .ref a15, .ref a16])), (a2, .inr (8, [.int 0, .int ts, .int td, .int tr, .int tf, .int ((f_X8_isFaulty_r tr))])), (a16, .inr (4, [.int 30, .int 3, .ref a19, .int ((f_X6_log_o1_3 eo en)), .int ((f_X6_log_o1_4 en))])), (a19, .inl (G.2.1.2, 90, .inr (.inl ((f_X6_log_o2 tm eo en ef 1 1)))))]) [1, 0, 2, 3] (by decide) rfl ?_
        exact sw_vret (pc := 47) F T (tf, (f_X8_isFaulty_r tr), (f_X6_log_o1_3 eo en), (f_X6_log_o1_4 en), (f_X6_log_o2 tm eo en ef 1 1)) ⟨(by unfold f_X6_followTransmitter_1_o1_4; rw [if_neg c_9, if_pos c_16, if_neg c_26]), rfl, (by unfold f_X6_followTransmitter_1_o2_3; rw [if_neg c_9]), (by unfold f_X6_followTransmitter_1_o2_4; rw [if_neg c_9]), (by unfold f_X6_followTransmitter_1_o3; rw [if_neg c_9, if_pos c_16])⟩ rfl dX6_followTransmitter_47
      · skip
        refine sw_aload_n (pc := 43) F dX6_followTransmitter_43 rfl 1 rfl ?_
        refine sw_callv (pc := 44) (wr := [(h0, .inr (6, [.int tm, .int ch, .ref a1, .ref a2, .ref a3, .ref a4, .int rg, .int hd, .int df, .ref a5, .ref a8, .long fl, .long ms, .long vo, .ref a9, .ref a10, .ref a13, .ref a14, .ref a15, .ref a16])), (a16, .inr (4, [.int 30, .int 3, .ref a19, .int o_20, .int o_21])), (a19, .inl (G.2.1.2, 90, .inr (.inl o_22)))]) (k' := 0) (n' := 0) F (sw_runV (R := ({ frames := 3, cells := 0, slots := 0, locals := 70 } : Room)) (q0 := 0) (na := 0) F T.2.1 T.2.2.1 (k_X8_filter l G a2 0 ts td tr tf r_5 (by assumption)) [0] rfl (by decide) gX6_followTransmitter_X8_filter rfl rfl rfl (by decide +kernel) ⟨Nat.le_of_ble_eq_true rfl, Nat.le_of_ble_eq_true rfl⟩ rfl rfl rfl rfl rfl (Nat.le_of_ble_eq_true rfl) dX6_followTransmitter_44 (Nat.le_of_ble_eq_true rfl) (Nat.le_of_ble_eq_true rfl)) [0] [1, 2, 3] rfl rfl (by decide) (by decide) rfl rfl (fun u_28 h_29 => ?_)
        obtain ⟨o_30, eu_28⟩ : ∃ z, z = u_28 := ⟨_, rfl⟩; subst eu_28
        have e_31 : o_30 = f_X8_filter_o0_4 0 ts td tr tf := h_29
        refine sw_eq (ws' := [(h0, .inr (6, [.int tm, .int ch, .ref a1, .ref a2, .ref a3, .ref a4, .int rg, .int hd, .int df, .ref a5, .ref a8, .long fl, .long ms, .long vo, .ref a9, .ref a10, .ref a13, .ref a14, .ref a15, .ref a16])), (a16, .inr (4, [.int 30, .int 3, .ref a19, .int o_20, .int o_21])), (a19, .inl (G.2.1.2, 90, .inr (.inl o_22))), (a2, .inr (8, [.int 0, .int ts, .int td, .int tr, .int o_30, .int r_5]))]) (lv' := [(3, .int r_5), (2, .ref a2), (0, .ref h0), (1, .int 1)]) (st' := []) rfl rfl rfl ?_
        subst e_31
        subst e_25
        subst e_24
        subst e_23
        subst e_8
        refine sw_perm (ws' := [(h0, .inr (6, [.int tm, .int ch, .ref a1, .ref a2, .ref a3, .ref a4, .int rg, .int hd, .int df, .ref a5, .ref a8, .long fl, .long ms, .long vo, .ref a9, .ref a10, .ref a13, .ref a14, .ref a15, .ref a16])), (a2, .inr (8, [.int 0, .int ts, .int td, .int tr, .int ((f_X8_filter_o0_4 0 ts td tr tf)), .int ((f_X8_isFaulty_r tr))])), (a16, .inr (4, [.int 30, .int 3, .ref a19, .int ((f_X6_log_o1_3 eo en)), .int ((f_X6_log_o1_4 en))])), (a19, .inl (G.2.1.2, 90, .inr (.inl ((f_X6_log_o2 tm eo en ef 1 1)))))]) [0, 3, 1, 2] (by decide) rfl ?_
        exact sw_vret (pc := 47) F T ((f_X8_filter_o0_4 0 ts td tr tf), (f_X8_isFaulty_r tr), (f_X6_log_o1_3 eo en), (f_X6_log_o1_4 en), (f_X6_log_o2 tm eo en ef 1 1)) ⟨(by unfold f_X6_followTransmitter_1_o1_4; rw [if_neg c_9, if_pos c_16, if_pos c_26]), rfl, (by unfold f_X6_followTransmitter_1_o2_3; rw [if_neg c_9]), (by unfold f_X6_followTransmitter_1_o2_4; rw [if_neg c_9]), (by unfold f_X6_followTransmitter_1_o3; rw [if_neg c_9, if_pos c_16])⟩ rfl dX6_followTransmitter_47
    · skip
      refine sw_iconst (pc := 24) (v := 0) F dX6_followTransmitter_24 rfl ?_
      refine sw_goto (pc := 25) (tgt := 29) F dX6_followTransmitter_25 (by decide) ?_
      refine sw_iload_n (pc := 29) F dX6_followTransmitter_29 rfl 3 rfl ?_
      refine sw_i2l (pc := 30) (v := 1) F dX6_followTransmitter_30 rfl ?_
      refine sw_callv (pc := 31) (wr := [(a2, .inr (8, [.int 0, .int ts, .int td, .int tr, .int tf, .int tw]))]) (k' := 0) (n' := 0) F (sw_runV (R := ({ frames := 3, cells := 0, slots := 0, locals := 70 } : Room)) (q0 := 0) (na := 2) F T.2.1 T.2.2.1 (k_X6_log l G h0 a1 a2 a3 a4 a5 a8 a9 a10 a13 a14 a15 a16 a19 tm ch rg hd df fl ms vo eo en ef 0 1) [2, 0, 1] rfl (by decide) gX6_followTransmitter_X6_log rfl rfl rfl (by decide +kernel) ⟨Nat.le_of_ble_eq_true rfl, Nat.le_of_ble_eq_true rfl⟩ rfl rfl rfl rfl rfl (Nat.le_of_ble_eq_true rfl) dX6_followTransmitter_31 (Nat.le_of_ble_eq_true rfl) (Nat.le_of_ble_eq_true rfl)) [2, 0, 1] [3] rfl rfl (by decide) (by decide) rfl rfl (fun u_33 h_34 => ?_)
      obtain ⟨o_35, o_36, o_37⟩ := u_33
      obtain ⟨e_38, e_39, e_40⟩ : o_35 = f_X6_log_o1_3 eo en ∧ o_36 = f_X6_log_o1_4 en ∧ o_37 = f_X6_log_o2 tm eo en ef 0 1 := h_34
      refine sw_eq (ws' := [(a2, .inr (8, [.int 0, .int ts, .int td, .int tr, .int tf, .int tw])), (h0, .inr (6, [.int tm, .int ch, .ref a1, .ref a2, .ref a3, .ref a4, .int rg, .int hd, .int df, .ref a5, .ref a8, .long fl, .long ms, .long vo, .ref a9, .ref a10, .ref a13, .ref a14, .ref a15, .ref a16])), (a16, .inr (4, [.int 30, .int 3, .ref a19, .int o_35, .int o_36])), (a19, .inl (G.2.1.2, 90, .inr (.inl o_37)))]) (lv' := [(3, .int r_5), (2, .ref a2), (0, .ref h0), (1, .int 1)]) (st' := []) rfl rfl rfl ?_
      refine sw_aload_n (pc := 34) F dX6_followTransmitter_34 rfl 1 rfl ?_
      refine sw_iload_n (pc := 35) F dX6_followTransmitter_35 rfl 0 rfl ?_
      refine sw_put (pc := 36) (Cn := RX8) (T := TX8) (N := 6) (ci := 8) (ty0 := tyX8) (ws' := [(a2, .inr (8, [.int 0, .int ts, .int td, .int tr, .int tf, .int r_5])), (h0, .inr (6, [.int tm, .int ch, .ref a1, .ref a2, .ref a3, .ref a4, .int rg, .int hd, .int df, .ref a5, .ref a8, .long fl, .long ms, .long vo, .ref a9, .ref a10, .ref a13, .ref a14, .ref a15, .ref a16])), (a16, .inr (4, [.int 30, .int 3, .ref a19, .int o_35, .int o_36])), (a19, .inl (G.2.1.2, 90, .inr (.inl o_37)))]) F in8 tyX8_ok nmX8 0 rfl rfl 5 (by decide) rfl (List.mem_of_getElem? (i := 1) rfl) rfl (sw_nb (by rw [e_8]; exact isFaulty_b _)).1 (sw_nb (by rw [e_8]; exact isFaulty_b _)).2 (Nat.le_of_ble_eq_true rfl) dX6_followTransmitter_36 rfl ?_
      refine sw_iload_n (pc := 39) F dX6_followTransmitter_39 rfl 0 rfl ?_
      refine sw_if_ne (pc := 40) (tgt := 47) F dX6_followTransmitter_40 (by decide) (fun c_41 => ?_) (fun c_41 => ?_)
      · skip
        subst e_40
        subst e_39
        subst e_38
        subst e_8
        refine sw_perm (ws' := [(h0, .inr (6, [.int tm, .int ch, .ref a1, .ref a2, .ref a3, .ref a4, .int rg, .int hd, .int df, .ref a5, .ref a8, .long fl, .long ms, .long vo, .ref a9, .ref a10, .ref a13, .ref a14, .ref a15, .ref a16])), (a2, .inr (8, [.int 0, .int ts, .int td, .int tr, .int tf, .int ((f_X8_isFaulty_r tr))])), (a16, .inr (4, [.int 30, .int 3, .ref a19, .int ((f_X6_log_o1_3 eo en)), .int ((f_X6_log_o1_4 en))])), (a19, .inl (G.2.1.2, 90, .inr (.inl ((f_X6_log_o2 tm eo en ef 0 1)))))]) [1, 0, 2, 3] (by decide) rfl ?_
        exact sw_vret (pc := 47) F T (tf, (f_X8_isFaulty_r tr), (f_X6_log_o1_3 eo en), (f_X6_log_o1_4 en), (f_X6_log_o2 tm eo en ef 0 1)) ⟨(by unfold f_X6_followTransmitter_1_o1_4; rw [if_neg c_9, if_neg c_16, if_neg c_41]), rfl, (by unfold f_X6_followTransmitter_1_o2_3; rw [if_neg c_9]), (by unfold f_X6_followTransmitter_1_o2_4; rw [if_neg c_9]), (by unfold f_X6_followTransmitter_1_o3; rw [if_neg c_9, if_neg c_16])⟩ rfl dX6_followTransmitter_47
      · skip
        refine sw_aload_n (pc := 43) F dX6_followTransmitter_43 rfl 1 rfl ?_
        refine sw_callv (pc := 44) (wr := [(h0, .inr (6, [.int tm, .int ch, .ref a1, .ref a2, .ref a3, .ref a4, .int rg, .int hd, .int df, .ref a5, .ref a8, .long fl, .long ms, .long vo, .ref a9, .ref a10, .ref a13, .ref a14, .ref a15, .ref a16])), (a16, .inr (4, [.int 30, .int 3, .ref a19, .int o_35, .int o_36])), (a19, .inl (G.2.1.2, 90, .inr (.inl o_37)))]) (k' := 0) (n' := 0) F (sw_runV (R := ({ frames := 3, cells := 0, slots := 0, locals := 70 } : Room)) (q0 := 0) (na := 0) F T.2.1 T.2.2.1 (k_X8_filter l G a2 0 ts td tr tf r_5 (by assumption)) [0] rfl (by decide) gX6_followTransmitter_X8_filter rfl rfl rfl (by decide +kernel) ⟨Nat.le_of_ble_eq_true rfl, Nat.le_of_ble_eq_true rfl⟩ rfl rfl rfl rfl rfl (Nat.le_of_ble_eq_true rfl) dX6_followTransmitter_44 (Nat.le_of_ble_eq_true rfl) (Nat.le_of_ble_eq_true rfl)) [0] [1, 2, 3] rfl rfl (by decide) (by decide) rfl rfl (fun u_43 h_44 => ?_)
        obtain ⟨o_45, eu_43⟩ : ∃ z, z = u_43 := ⟨_, rfl⟩; subst eu_43
        have e_46 : o_45 = f_X8_filter_o0_4 0 ts td tr tf := h_44
        refine sw_eq (ws' := [(h0, .inr (6, [.int tm, .int ch, .ref a1, .ref a2, .ref a3, .ref a4, .int rg, .int hd, .int df, .ref a5, .ref a8, .long fl, .long ms, .long vo, .ref a9, .ref a10, .ref a13, .ref a14, .ref a15, .ref a16])), (a16, .inr (4, [.int 30, .int 3, .ref a19, .int o_35, .int o_36])), (a19, .inl (G.2.1.2, 90, .inr (.inl o_37))), (a2, .inr (8, [.int 0, .int ts, .int td, .int tr, .int o_45, .int r_5]))]) (lv' := [(3, .int r_5), (2, .ref a2), (0, .ref h0), (1, .int 1)]) (st' := []) rfl rfl rfl ?_
        subst e_46
        subst e_40
        subst e_39
        subst e_38
        subst e_8
        refine sw_perm (ws' := [(h0, .inr (6, [.int tm, .int ch, .ref a1, .ref a2, .ref a3, .ref a4, .int rg, .int hd, .int df, .ref a5, .ref a8, .long fl, .long ms, .long vo, .ref a9, .ref a10, .ref a13, .ref a14, .ref a15, .ref a16])), (a2, .inr (8, [.int 0, .int ts, .int td, .int tr, .int ((f_X8_filter_o0_4 0 ts td tr tf)), .int ((f_X8_isFaulty_r tr))])), (a16, .inr (4, [.int 30, .int 3, .ref a19, .int ((f_X6_log_o1_3 eo en)), .int ((f_X6_log_o1_4 en))])), (a19, .inl (G.2.1.2, 90, .inr (.inl ((f_X6_log_o2 tm eo en ef 0 1)))))]) [0, 3, 1, 2] (by decide) rfl ?_
        exact sw_vret (pc := 47) F T ((f_X8_filter_o0_4 0 ts td tr tf), (f_X8_isFaulty_r tr), (f_X6_log_o1_3 eo en), (f_X6_log_o1_4 en), (f_X6_log_o2 tm eo en ef 0 1)) ⟨(by unfold f_X6_followTransmitter_1_o1_4; rw [if_neg c_9, if_neg c_16, if_pos c_41]), rfl, (by unfold f_X6_followTransmitter_1_o2_3; rw [if_neg c_9]), (by unfold f_X6_followTransmitter_1_o2_4; rw [if_neg c_9]), (by unfold f_X6_followTransmitter_1_o3; rw [if_neg c_9, if_neg c_16])⟩ rfl dX6_followTransmitter_47
def f_X6_followTransmitter_2_o1_4 (ts : Int32) (td : Int32) (tr : Int32) (tf : Int32) (tw : Int32) : Int32 := if (f_X8_isFaulty_r tr) = tw then (if (f_X8_isFaulty_r tr) = 0 then ((f_X8_filter_o0_4 0 ts td tr tf)) else (tf)) else (if (f_X8_isFaulty_r tr) = 0 then (if (f_X8_isFaulty_r tr) = 0 then ((f_X8_filter_o0_4 0 ts td tr tf)) else (tf)) else (if (f_X8_isFaulty_r tr) = 0 then ((f_X8_filter_o0_4 0 ts td tr tf)) else (tf)))
def f_X6_followTransmitter_2_o1_5 (tr : Int32) : Int32 := (f_X8_isFaulty_r tr)
def f_X6_followTransmitter_2_o2_3 (tr : Int32) (tw : Int32) (eo : Int32) (en : Int32) : Int32 := if (f_X8_isFaulty_r tr) = tw then (eo) else ((f_X6_log_o1_3 eo en))
def f_X6_followTransmitter_2_o2_4 (tr : Int32) (tw : Int32) (en : Int32) : Int32 := if (f_X8_isFaulty_r tr) = tw then (en) else ((f_X6_log_o1_4 en))
def f_X6_followTransmitter_2_o3 (tm : Int32) (tr : Int32) (tw : Int32) (eo : Int32) (en : Int32) (ef : Nat → Int64) : Nat → Int64 := if (f_X8_isFaulty_r tr) = tw then (ef) else (if (f_X8_isFaulty_r tr) = 0 then ((f_X6_log_o2 tm eo en ef 1 2)) else ((f_X6_log_o2 tm eo en ef 0 2)))
set_option maxHeartbeats 4000000 in
set_option maxRecDepth 100000 in
theorem k_X6_followTransmitter_2 (l : Launch) (G : sw_E) (h0 : Nat) (a1 : Nat) (a2 : Nat) (a3 : Nat) (a4 : Nat) (a5 : Nat) (a8 : Nat) (a9 : Nat) (a10 : Nat) (a13 : Nat) (a14 : Nat) (a15 : Nat) (a16 : Nat) (a19 : Nat) (tm : Int32) (ch : Int32) (rg : Int32) (hd : Int32) (df : Int32) (fl : Int64) (ms : Int64) (vo : Int64) (ts : Int32) (td : Int32) (tr : Int32) (tf : Int32) (tw : Int32) (eo : Int32) (en : Int32) (ef : Nat → Int64) (hd0 : ¬ ((1 : Int32) <<< (td &&& 31)) = 0) : sw_M l G yX6_followTransmitter wsX6_followTransmitter ({ frames := 3, cells := 0, slots := 0, locals := 70 } : Room) [.ref h0, .int 2] [(h0, .inr (6, [.int tm, .int ch, .ref a1, .ref a2, .ref a3, .ref a4, .int rg, .int hd, .int df, .ref a5, .ref a8, .long fl, .long ms, .long vo, .ref a9, .ref a10, .ref a13, .ref a14, .ref a15, .ref a16])), (a3, .inr (8, [.int 0, .int ts, .int td, .int tr, .int tf, .int tw])), (a16, .inr (4, [.int 30, .int 3, .ref a19, .int eo, .int en])), (a19, .inl (G.2.1.2, 90, .inr (.inl ef)))] (sw_QV G (S := Int32 × Int32 × Int32 × Int32 × (Nat → Int64)) (fun (u : Int32 × Int32 × Int32 × Int32 × (Nat → Int64)) => u.1 = f_X6_followTransmitter_2_o1_4 ts td tr tf tw ∧ u.2.1 = f_X6_followTransmitter_2_o1_5 tr ∧ u.2.2.1 = f_X6_followTransmitter_2_o2_3 tr tw eo en ∧ u.2.2.2.1 = f_X6_followTransmitter_2_o2_4 tr tw en ∧ u.2.2.2.2 = f_X6_followTransmitter_2_o3 tm tr tw eo en ef) (fun u => [(h0, .inr (6, [.int tm, .int ch, .ref a1, .ref a2, .ref a3, .ref a4, .int rg, .int hd, .int df, .ref a5, .ref a8, .long fl, .long ms, .long vo, .ref a9, .ref a10, .ref a13, .ref a14, .ref a15, .ref a16])), (a3, .inr (8, [.int 0, .int ts, .int td, .int tr, .int u.1, .int u.2.1])), (a16, .inr (4, [.int 30, .int 3, .ref a19, .int u.2.2.1, .int u.2.2.2.1])), (a19, .inl (G.2.1.2, 90, .inr (.inl u.2.2.2.2)))])) 0 0 := by
  refine sw_start (cc := cX6_followTransmitter) (maxL := 4) (ret := none) (lv := [(0, .ref h0), (1, .int 2)]) (own := RX6) (nm := "followTransmitter") (by decide +kernel) rfl rfl rfl rfl (Nat.le_of_ble_eq_true rfl) (fun C F T => ?_)
  have in8 : ∀ w ∈ u_ws RX8 TX8 6, w ∈ wsX6_followTransmitter := fun w h => List.mem_cons_of_mem _ (List.mem_append_left _ (List.mem_append_left _ (List.mem_append_right _ (h))))
  refine sw_aload_n (pc := 0) F dX6_followTransmitter_0 rfl 0 rfl ?_
  refine sw_iload_n (pc := 1) F dX6_followTransmitter_1 rfl 1 rfl ?_
  refine sw_callr (pc := 2) (wr := [(a3, .inr (8, [.int 0, .int ts, .int td, .int tr, .int tf, .int tw])), (a16, .inr (4, [.int 30, .int 3, .ref a19, .int eo, .int en])), (a19, .inl (G.2.1.2, 90, .inr (.inl ef)))]) (k' := 0) (n' := 0) F (sw_runV (R := ({ frames := 3, cells := 0, slots := 0, locals := 70 } : Room)) (q0 := 0) (na := 1) F T.2.1 T.2.2.1 (k_X6_transmitterAt_2 l G h0 a1 a2 a3 a4 a5 a8 a9 a10 a13 a14 a15 a16 tm ch rg hd df fl ms vo) [0] rfl (by decide) gX6_followTransmitter_X6_transmitterAt rfl rfl rfl (by decide +kernel) ⟨Nat.le_of_ble_eq_true rfl, Nat.le_of_ble_eq_true rfl⟩ rfl rfl rfl rfl rfl (Nat.le_of_ble_eq_true rfl) dX6_followTransmitter_2 (Nat.le_of_ble_eq_true rfl) (Nat.le_of_ble_eq_true rfl)) [0] [1, 2, 3] rfl rfl (by decide) (by decide) rfl rfl (fun r_1 u_2 h_3 => ?_)
  have e_4 : r_1 = a3 := h_3
  refine sw_eqt (v := .ref a3) (by rw [e_4]) ?_
  refine sw_eq (ws' := [(a3, .inr (8, [.int 0, .int ts, .int td, .int tr, .int tf, .int tw])), (a16, .inr (4, [.int 30, .int 3, .ref a19, .int eo, .int en])), (a19, .inl (G.2.1.2, 90, .inr (.inl ef))), (h0, .inr (6, [.int tm, .int ch, .ref a1, .ref a2, .ref a3, .ref a4, .int rg, .int hd, .int df, .ref a5, .ref a8, .long fl, .long ms, .long vo, .ref a9, .ref a10, .ref a13, .ref a14, .ref a15, .ref a16]))]) (lv' := [(0, .ref h0), (1, .int 2)]) (st' := [.ref a3]) rfl rfl rfl ?_
  refine sw_astore_n (pc := 5) (lv' := [(2, .ref a3), (0, .ref h0), (1, .int 2)]) F T.1 dX6_followTransmitter_5 rfl (by decide) rfl ?_
  refine sw_aload_n (pc := 6) F dX6_followTransmitter_6 rfl 0 rfl ?_
  refine sw_calli (pc := 7) (wr := [(a16, .inr (4, [.int 30, .int 3, .ref a19, .int eo, .int en])), (a19, .inl (G.2.1.2, 90, .inr (.inl ef))), (h0, .inr (6, [.int tm, .int ch, .ref a1, .ref a2, .ref a3, .ref a4, .int rg, .int hd, .int df, .ref a5, .ref a8, .long fl, .long ms, .long vo, .ref a9, .ref a10, .ref a13, .ref a14, .ref a15, .ref a16]))]) (k' := 0) (n' := 0) F (sw_runV (R := ({ frames := 3, cells := 0, slots := 0, locals := 70 } : Room)) (q0 := 0) (na := 0) F T.2.1 T.2.2.1 (k_X8_isFaulty l G a3 0 ts td tr tf tw) [0] rfl (by decide) gX6_followTransmitter_X8_isFaulty rfl rfl rfl (by decide +kernel) ⟨Nat.le_of_ble_eq_true rfl, Nat.le_of_ble_eq_true rfl⟩ rfl rfl rfl rfl rfl (Nat.le_of_ble_eq_true rfl) dX6_followTransmitter_7 (Nat.le_of_ble_eq_true rfl) (Nat.le_of_ble_eq_true rfl)) [0] [1, 2, 3] rfl rfl (by decide) (by decide) rfl rfl (fun r_5 u_6 h_7 => ?_)
  have e_8 : r_5 = f_X8_isFaulty_r tr := h_7
  refine sw_eq (ws' := [(a16, .inr (4, [.int 30, .int 3, .ref a19, .int eo, .int en])), (a19, .inl (G.2.1.2, 90, .inr (.inl ef))), (h0, .inr (6, [.int tm, .int ch, .ref a1, .ref a2, .ref a3, .ref a4, .int rg, .int hd, .int df, .ref a5, .ref a8, .long fl, .long ms, .long vo, .ref a9, .ref a10, .ref a13, .ref a14, .ref a15, .ref a16])), (a3, .inr (8, [.int 0, .int ts, .int td, .int tr, .int tf, .int tw]))]) (lv' := [(2, .ref a3), (0, .ref h0), (1, .int 2)]) (st' := [.int r_5]) rfl rfl rfl ?_
  refine sw_istore_n (pc := 10) (lv' := [(3, .int r_5), (2, .ref a3), (0, .ref h0), (1, .int 2)]) F T.1 dX6_followTransmitter_10 rfl (by decide) rfl ?_
  refine sw_iload_n (pc := 11) F dX6_followTransmitter_11 rfl 0 rfl ?_
  refine sw_aload_n (pc := 12) F dX6_followTransmitter_12 rfl 1 rfl ?_
  refine sw_get (pc := 13) (Cn := RX8) (T := TX8) (N := 6) (ci := 8) (v := .int tw) F in8 3 rfl rfl 5 (by decide) rfl (List.mem_of_getElem? (i := 1) rfl) rfl dX6_followTransmitter_13 ?_
  refine sw_icmp_eq (pc := 16) (tgt := 34) F dX6_followTransmitter_16 (by decide) (fun c_9 => ?_) (fun c_9 => ?_)
  · skip
    refine sw_aload_n (pc := 34) F dX6_followTransmitter_34 rfl 1 rfl ?_
    refine sw_iload_n (pc := 35) F dX6_followTransmitter_35 rfl 0 rfl ?_
    refine sw_put (pc := 36) (Cn := RX8) (T := TX8) (N := 6) (ci := 8) (ty0 := tyX8) (ws' := [(a16, .inr (4, [.int 30, .int 3, .ref a19, .int eo, .int en])), (a19, .inl (G.2.1.2, 90, .inr (.inl ef))), (h0, .inr (6, [.int tm, .int ch, .ref a1, .ref a2, .ref a3, .ref a4, .int rg, .int hd, .int df, .ref a5, .ref a8, .long fl, .long ms, .long vo, .ref a9, .ref a10, .ref a13, .ref a14, .ref a15, .ref a16])), (a3, .inr (8, [.int 0, .int ts, .int td, .int tr, .int tf, .int r_5]))]) F in8 tyX8_ok nmX8 3 rfl rfl 5 (by decide) rfl (List.mem_of_getElem? (i := 1) rfl) rfl (sw_nb (by rw [e_8]; exact isFaulty_b _)).1 (sw_nb (by rw [e_8]; exact isFaulty_b _)).2 (Nat.le_of_ble_eq_true rfl) dX6_followTransmitter_36 rfl ?_
    refine sw_iload_n (pc := 39) F dX6_followTransmitter_39 rfl 0 rfl ?_
    refine sw_if_ne (pc := 40) (tgt := 47) F dX6_followTransmitter_40 (by decide) (fun c_10 => ?_) (fun c_10 => ?_)
    · skip
      subst e_8
      refine sw_perm (ws' := [(h0, .inr (6, [.int tm, .int ch, .ref a1, .ref a2, .ref a3, .ref a4, .int rg, .int hd, .int df, .ref a5, .ref a8, .long fl, .long ms, .long vo, .ref a9, .ref a10, .ref a13, .ref a14, .ref a15, .ref a16])), (a3, .inr (8, [.int 0, .int ts, .int td, .int tr, .int tf, .int ((f_X8_isFaulty_r tr))])), (a16, .inr (4, [.int 30, .int 3, .ref a19, .int eo, .int en])), (a19, .inl (G.2.1.2, 90, .inr (.inl ef)))]) [2, 3, 0, 1] (by decide) rfl ?_
      exact sw_vret (pc := 47) F T (tf, (f_X8_isFaulty_r tr), eo, en, ef) ⟨(by unfold f_X6_followTransmitter_2_o1_4; rw [if_pos c_9, if_neg c_10]), rfl, (by unfold f_X6_followTransmitter_2_o2_3; rw [if_pos c_9]), (by unfold f_X6_followTransmitter_2_o2_4; rw [if_pos c_9]), (by unfold f_X6_followTransmitter_2_o3; rw [if_pos c_9])⟩ rfl dX6_followTransmitter_47
    · skip
      refine sw_aload_n (pc := 43) F dX6_followTransmitter_43 rfl 1 rfl ?_
      refine sw_callv (pc := 44) (wr := [(a16, .inr (4, [.int 30, .int 3, .ref a19, .int eo, .int en])), (a19, .inl (G.2.1.2, 90, .inr (.inl ef))), (h0, .inr (6, [.int tm, .int ch, .ref a1, .ref a2, .ref a3, .ref a4, .int rg, .int hd, .int df, .ref a5, .ref a8, .long fl, .long ms, .long vo, .ref a9, .ref a10, .ref a13, .ref a14, .ref a15, .ref a16]))]) (k' := 0) (n' := 0) F (sw_runV (R := ({ frames := 3, cells := 0, slots := 0, locals := 70 } : Room)) (q0 := 0) (na := 0) F T.2.1 T.2.2.1 (k_X8_filter l G a3 0 ts td tr tf r_5 (by assumption)) [3] rfl (by decide) gX6_followTransmitter_X8_filter rfl rfl rfl (by decide +kernel) ⟨Nat.le_of_ble_eq_true rfl, Nat.le_of_ble_eq_true rfl⟩ rfl rfl rfl rfl rfl (Nat.le_of_ble_eq_true rfl) dX6_followTransmitter_44 (Nat.le_of_ble_eq_true rfl) (Nat.le_of_ble_eq_true rfl)) [3] [0, 1, 2] rfl rfl (by decide) (by decide) rfl rfl (fun u_12 h_13 => ?_)
      obtain ⟨o_14, eu_12⟩ : ∃ z, z = u_12 := ⟨_, rfl⟩; subst eu_12
      have e_15 : o_14 = f_X8_filter_o0_4 0 ts td tr tf := h_13
      refine sw_eq (ws' := [(a16, .inr (4, [.int 30, .int 3, .ref a19, .int eo, .int en])), (a19, .inl (G.2.1.2, 90, .inr (.inl ef))), (h0, .inr (6, [.int tm, .int ch, .ref a1, .ref a2, .ref a3, .ref a4, .int rg, .int hd, .int df, .ref a5, .ref a8, .long fl, .long ms, .long vo, .ref a9, .ref a10, .ref a13, .ref a14, .ref a15, .ref a16])), (a3, .inr (8, [.int 0, .int ts, .int td, .int tr, .int o_14, .int r_5]))]) (lv' := [(3, .int r_5), (2, .ref a3), (0, .ref h0), (1, .int 2)]) (st' := []) rfl rfl rfl ?_
      subst e_15
      subst e_8
      refine sw_perm (ws' := [(h0, .inr (6, [.int tm, .int ch, .ref a1, .ref a2, .ref a3, .ref a4, .int rg, .int hd, .int df, .ref a5, .ref a8, .long fl, .long ms, .long vo, .ref a9, .ref a10, .ref a13, .ref a14, .ref a15, .ref a16])), (a3, .inr (8, [.int 0, .int ts, .int td, .int tr, .int ((f_X8_filter_o0_4 0 ts td tr tf)), .int ((f_X8_isFaulty_r tr))])), (a16, .inr (4, [.int 30, .int 3, .ref a19, .int eo, .int en])), (a19, .inl (G.2.1.2, 90, .inr (.inl ef)))]) [2, 3, 0, 1] (by decide) rfl ?_
      exact sw_vret (pc := 47) F T ((f_X8_filter_o0_4 0 ts td tr tf), (f_X8_isFaulty_r tr), eo, en, ef) ⟨(by unfold f_X6_followTransmitter_2_o1_4; rw [if_pos c_9, if_pos c_10]), rfl, (by unfold f_X6_followTransmitter_2_o2_3; rw [if_pos c_9]), (by unfold f_X6_followTransmitter_2_o2_4; rw [if_pos c_9]), (by unfold f_X6_followTransmitter_2_o3; rw [if_pos c_9])⟩ rfl dX6_followTransmitter_47
  · skip
    refine sw_aload_n (pc := 19) F dX6_followTransmitter_19 rfl 2 rfl ?_
    refine sw_iload_n (pc := 20) F dX6_followTransmitter_20 rfl 0 rfl ?_
    refine sw_if_eq (pc := 21) (tgt := 28) F dX6_followTransmitter_21 (by decide) (fun c_16 => ?_) (fun c_16 => ?_)
    · skip
      refine sw_iconst (pc := 28) (v := 1) F dX6_followTransmitter_28 rfl ?_
      refine sw_iload_n (pc := 29) F dX6_followTransmitter_29 rfl 3 rfl ?_
      refine sw_i2l (pc := 30) (v := 2) F dX6_followTransmitter_30 rfl ?_
      refine sw_callv (pc := 31) (wr := [(a3, .inr (8, [.int 0, .int ts, .int td, .int tr, .int tf, .int tw]))]) (k' := 0) (n' := 0) F (sw_runV (R := ({ frames := 3, cells := 0, slots := 0, locals := 70 } : Room)) (q0 := 0) (na := 2) F T.2.1 T.2.2.1 (k_X6_log l G h0 a1 a2 a3 a4 a5 a8 a9 a10 a13 a14 a15 a16 a19 tm ch rg hd df fl ms vo eo en ef 1 2) [2, 0, 1] rfl (by decide) gX6_followTransmitter_X6_log rfl rfl rfl (by decide +kernel) ⟨Nat.le_of_ble_eq_true rfl, Nat.le_of_ble_eq_true rfl⟩ rfl rfl rfl rfl rfl (Nat.le_of_ble_eq_true rfl) dX6_followTransmitter_31 (Nat.le_of_ble_eq_true rfl) (Nat.le_of_ble_eq_true rfl)) [2, 0, 1] [3] rfl rfl (by decide) (by decide) rfl rfl (fun u_18 h_19 => ?_)
      obtain ⟨o_20, o_21, o_22⟩ := u_18
      obtain ⟨e_23, e_24, e_25⟩ : o_20 = f_X6_log_o1_3 eo en ∧ o_21 = f_X6_log_o1_4 en ∧ o_22 = f_X6_log_o2 tm eo en ef 1 2 := h_19
      refine sw_eq (ws' := [(a3, .inr (8, [.int 0, .int ts, .int td, .int tr, .int tf, .int tw])), (h0, .inr (6, [.int tm, .int ch, .ref a1, .ref a2, .ref a3, .ref a4, .int rg, .int hd, .int df, .ref a5, .ref a8, .long fl, .long ms, .long vo, .ref a9, .ref a10, .ref a13, .ref a14, .ref a15, .ref a16])), (a16, .inr (4, [.int 30, .int 3, .ref a19, .int o_20, .int o_21])), (a19, .inl (G.2.1.2, 90, .inr (.inl o_22)))]) (lv' := [(3, .int r_5), (2, .ref a3), (0, .ref h0), (1, .int 2)]) (st' := []) rfl rfl rfl ?_
      refine sw_aload_n (pc := 34) F dX6_followTransmitter_34 rfl 1 rfl ?_
      refine sw_iload_n (pc := 35) F dX6_followTransmitter_35 rfl 0 rfl ?_
      refine sw_put (pc := 36) (Cn := RX8) (T := TX8) (N := 6) (ci := 8) (ty0 := tyX8) (ws' := [(a3, .inr (8, [.int 0, .int ts, .int td, .int tr, .int tf, .int r_5])), (h0, .inr (6, [.int tm, .int ch, .ref a1, .ref a2, .ref a3, .ref a4, .int rg, .int hd, .int df, .ref a5, .ref a8, .long fl, .long ms, .long vo, .ref a9, .ref a10, .ref a13, .ref a14, .ref a15, .ref a16])), (a16, .inr (4, [.int 30, .int 3, .ref a19, .int o_20, .int o_21])), (a19, .inl (G.2.1.2, 90, .inr (.inl o_22)))]) F in8 tyX8_ok nmX8 0 rfl rfl 5 (by decide) rfl (List.mem_of_getElem? (i := 1) rfl) rfl (sw_nb (by rw [e_8]; exact isFaulty_b _)).1 (sw_nb (by rw [e_8]; exact isFaulty_b _)).2 (Nat.le_of_ble_eq_true rfl) dX6_followTransmitter_36 rfl ?_
      refine sw_iload_n (pc := 39) F dX6_followTransmitter_39 rfl 0 rfl ?_
      refine sw_if_ne (pc := 40) (tgt := 47) F dX6_followTransmitter_40 (by decide) (fun c_26 => ?_) (fun c_26 => ?_)
      · skip
        subst e_25
        subst e_24
        subst e_23
        subst e_8
        refine sw_perm (ws' := [(h0, .inr (6, [.int tm, .int ch, .ref a1, .ref a2, .ref a3, .ref a4, .int rg, .int hd, .int df, .ref a5, .ref a8, .long fl, .long ms, .long vo, .ref a9, .ref a10, .ref a13, .ref a14, .ref a15, .ref a16])), (a3, .inr (8, [.int 0, .int ts, .int td, .int tr, .int tf, .int ((f_X8_isFaulty_r tr))])), (a16, .inr (4, [.int 30, .int 3, .ref a19, .int ((f_X6_log_o1_3 eo en)), .int ((f_X6_log_o1_4 en))])), (a19, .inl (G.2.1.2, 90, .inr (.inl ((f_X6_log_o2 tm eo en ef 1 2)))))]) [1, 0, 2, 3] (by decide) rfl ?_
        exact sw_vret (pc := 47) F T (tf, (f_X8_isFaulty_r tr), (f_X6_log_o1_3 eo en), (f_X6_log_o1_4 en), (f_X6_log_o2 tm eo en ef 1 2)) ⟨(by unfold f_X6_followTransmitter_2_o1_4; rw [if_neg c_9, if_pos c_16, if_neg c_26]), rfl, (by unfold f_X6_followTransmitter_2_o2_3; rw [if_neg c_9]), (by unfold f_X6_followTransmitter_2_o2_4; rw [if_neg c_9]), (by unfold f_X6_followTransmitter_2_o3; rw [if_neg c_9, if_pos c_16])⟩ rfl dX6_followTransmitter_47
      · skip
        refine sw_aload_n (pc := 43) F dX6_followTransmitter_43 rfl 1 rfl ?_
        refine sw_callv (pc := 44) (wr := [(h0, .inr (6, [.int tm, .int ch, .ref a1, .ref a2, .ref a3, .ref a4, .int rg, .int hd, .int df, .ref a5, .ref a8, .long fl, .long ms, .long vo, .ref a9, .ref a10, .ref a13, .ref a14, .ref a15, .ref a16])), (a16, .inr (4, [.int 30, .int 3, .ref a19, .int o_20, .int o_21])), (a19, .inl (G.2.1.2, 90, .inr (.inl o_22)))]) (k' := 0) (n' := 0) F (sw_runV (R := ({ frames := 3, cells := 0, slots := 0, locals := 70 } : Room)) (q0 := 0) (na := 0) F T.2.1 T.2.2.1 (k_X8_filter l G a3 0 ts td tr tf r_5 (by assumption)) [0] rfl (by decide) gX6_followTransmitter_X8_filter rfl rfl rfl (by decide +kernel) ⟨Nat.le_of_ble_eq_true rfl, Nat.le_of_ble_eq_true rfl⟩ rfl rfl rfl rfl rfl (Nat.le_of_ble_eq_true rfl) dX6_followTransmitter_44 (Nat.le_of_ble_eq_true rfl) (Nat.le_of_ble_eq_true rfl)) [0] [1, 2, 3] rfl rfl (by decide) (by decide) rfl rfl (fun u_28 h_29 => ?_)
        obtain ⟨o_30, eu_28⟩ : ∃ z, z = u_28 := ⟨_, rfl⟩; subst eu_28
        have e_31 : o_30 = f_X8_filter_o0_4 0 ts td tr tf := h_29
        refine sw_eq (ws' := [(h0, .inr (6, [.int tm, .int ch, .ref a1, .ref a2, .ref a3, .ref a4, .int rg, .int hd, .int df, .ref a5, .ref a8, .long fl, .long ms, .long vo, .ref a9, .ref a10, .ref a13, .ref a14, .ref a15, .ref a16])), (a16, .inr (4, [.int 30, .int 3, .ref a19, .int o_20, .int o_21])), (a19, .inl (G.2.1.2, 90, .inr (.inl o_22))), (a3, .inr (8, [.int 0, .int ts, .int td, .int tr, .int o_30, .int r_5]))]) (lv' := [(3, .int r_5), (2, .ref a3), (0, .ref h0), (1, .int 2)]) (st' := []) rfl rfl rfl ?_
        subst e_31
        subst e_25
        subst e_24
        subst e_23
        subst e_8
        refine sw_perm (ws' := [(h0, .inr (6, [.int tm, .int ch, .ref a1, .ref a2, .ref a3, .ref a4, .int rg, .int hd, .int df, .ref a5, .ref a8, .long fl, .long ms, .long vo, .ref a9, .ref a10, .ref a13, .ref a14, .ref a15, .ref a16])), (a3, .inr (8, [.int 0, .int ts, .int td, .int tr, .int ((f_X8_filter_o0_4 0 ts td tr tf)), .int ((f_X8_isFaulty_r tr))])), (a16, .inr (4, [.int 30, .int 3, .ref a19, .int ((f_X6_log_o1_3 eo en)), .int ((f_X6_log_o1_4 en))])), (a19, .inl (G.2.1.2, 90, .inr (.inl ((f_X6_log_o2 tm eo en ef 1 2)))))]) [0, 3, 1, 2] (by decide) rfl ?_
        exact sw_vret (pc := 47) F T ((f_X8_filter_o0_4 0 ts td tr tf), (f_X8_isFaulty_r tr), (f_X6_log_o1_3 eo en), (f_X6_log_o1_4 en), (f_X6_log_o2 tm eo en ef 1 2)) ⟨(by unfold f_X6_followTransmitter_2_o1_4; rw [if_neg c_9, if_pos c_16, if_pos c_26]), rfl, (by unfold f_X6_followTransmitter_2_o2_3; rw [if_neg c_9]), (by unfold f_X6_followTransmitter_2_o2_4; rw [if_neg c_9]), (by unfold f_X6_followTransmitter_2_o3; rw [if_neg c_9, if_pos c_16])⟩ rfl dX6_followTransmitter_47
    · skip
      refine sw_iconst (pc := 24) (v := 0) F dX6_followTransmitter_24 rfl ?_
      refine sw_goto (pc := 25) (tgt := 29) F dX6_followTransmitter_25 (by decide) ?_
      refine sw_iload_n (pc := 29) F dX6_followTransmitter_29 rfl 3 rfl ?_
      refine sw_i2l (pc := 30) (v := 2) F dX6_followTransmitter_30 rfl ?_
      refine sw_callv (pc := 31) (wr := [(a3, .inr (8, [.int 0, .int ts, .int td, .int tr, .int tf, .int tw]))]) (k' := 0) (n' := 0) F (sw_runV (R := ({ frames := 3, cells := 0, slots := 0, locals := 70 } : Room)) (q0 := 0) (na := 2) F T.2.1 T.2.2.1 (k_X6_log l G h0 a1 a2 a3 a4 a5 a8 a9 a10 a13 a14 a15 a16 a19 tm ch rg hd df fl ms vo eo en ef 0 2) [2, 0, 1] rfl (by decide) gX6_followTransmitter_X6_log rfl rfl rfl (by decide +kernel) ⟨Nat.le_of_ble_eq_true rfl, Nat.le_of_ble_eq_true rfl⟩ rfl rfl rfl rfl rfl (Nat.le_of_ble_eq_true rfl) dX6_followTransmitter_31 (Nat.le_of_ble_eq_true rfl) (Nat.le_of_ble_eq_true rfl)) [2, 0, 1] [3] rfl rfl (by decide) (by decide) rfl rfl (fun u_33 h_34 => ?_)
      obtain ⟨o_35, o_36, o_37⟩ := u_33
      obtain ⟨e_38, e_39, e_40⟩ : o_35 = f_X6_log_o1_3 eo en ∧ o_36 = f_X6_log_o1_4 en ∧ o_37 = f_X6_log_o2 tm eo en ef 0 2 := h_34
      refine sw_eq (ws' := [(a3, .inr (8, [.int 0, .int ts, .int td, .int tr, .int tf, .int tw])), (h0, .inr (6, [.int tm, .int ch, .ref a1, .ref a2, .ref a3, .ref a4, .int rg, .int hd, .int df, .ref a5, .ref a8, .long fl, .long ms, .long vo, .ref a9, .ref a10, .ref a13, .ref a14, .ref a15, .ref a16])), (a16, .inr (4, [.int 30, .int 3, .ref a19, .int o_35, .int o_36])), (a19, .inl (G.2.1.2, 90, .inr (.inl o_37)))]) (lv' := [(3, .int r_5), (2, .ref a3), (0, .ref h0), (1, .int 2)]) (st' := []) rfl rfl rfl ?_
      refine sw_aload_n (pc := 34) F dX6_followTransmitter_34 rfl 1 rfl ?_
      refine sw_iload_n (pc := 35) F dX6_followTransmitter_35 rfl 0 rfl ?_
      refine sw_put (pc := 36) (Cn := RX8) (T := TX8) (N := 6) (ci := 8) (ty0 := tyX8) (ws' := [(a3, .inr (8, [.int 0, .int ts, .int td, .int tr, .int tf, .int r_5])), (h0, .inr (6, [.int tm, .int ch, .ref a1, .ref a2, .ref a3, .ref a4, .int rg, .int hd, .int df, .ref a5, .ref a8, .long fl, .long ms, .long vo, .ref a9, .ref a10, .ref a13, .ref a14, .ref a15, .ref a16])), (a16, .inr (4, [.int 30, .int 3, .ref a19, .int o_35, .int o_36])), (a19, .inl (G.2.1.2, 90, .inr (.inl o_37)))]) F in8 tyX8_ok nmX8 0 rfl rfl 5 (by decide) rfl (List.mem_of_getElem? (i := 1) rfl) rfl (sw_nb (by rw [e_8]; exact isFaulty_b _)).1 (sw_nb (by rw [e_8]; exact isFaulty_b _)).2 (Nat.le_of_ble_eq_true rfl) dX6_followTransmitter_36 rfl ?_
      refine sw_iload_n (pc := 39) F dX6_followTransmitter_39 rfl 0 rfl ?_
      refine sw_if_ne (pc := 40) (tgt := 47) F dX6_followTransmitter_40 (by decide) (fun c_41 => ?_) (fun c_41 => ?_)
      · skip
        subst e_40
        subst e_39
        subst e_38
        subst e_8
        refine sw_perm (ws' := [(h0, .inr (6, [.int tm, .int ch, .ref a1, .ref a2, .ref a3, .ref a4, .int rg, .int hd, .int df, .ref a5, .ref a8, .long fl, .long ms, .long vo, .ref a9, .ref a10, .ref a13, .ref a14, .ref a15, .ref a16])), (a3, .inr (8, [.int 0, .int ts, .int td, .int tr, .int tf, .int ((f_X8_isFaulty_r tr))])), (a16, .inr (4, [.int 30, .int 3, .ref a19, .int ((f_X6_log_o1_3 eo en)), .int ((f_X6_log_o1_4 en))])), (a19, .inl (G.2.1.2, 90, .inr (.inl ((f_X6_log_o2 tm eo en ef 0 2)))))]) [1, 0, 2, 3] (by decide) rfl ?_
        exact sw_vret (pc := 47) F T (tf, (f_X8_isFaulty_r tr), (f_X6_log_o1_3 eo en), (f_X6_log_o1_4 en), (f_X6_log_o2 tm eo en ef 0 2)) ⟨(by unfold f_X6_followTransmitter_2_o1_4; rw [if_neg c_9, if_neg c_16, if_neg c_41]), rfl, (by unfold f_X6_followTransmitter_2_o2_3; rw [if_neg c_9]), (by unfold f_X6_followTransmitter_2_o2_4; rw [if_neg c_9]), (by unfold f_X6_followTransmitter_2_o3; rw [if_neg c_9, if_neg c_16])⟩ rfl dX6_followTransmitter_47
      · skip
        refine sw_aload_n (pc := 43) F dX6_followTransmitter_43 rfl 1 rfl ?_
        refine sw_callv (pc := 44) (wr := [(h0, .inr (6, [.int tm, .int ch, .ref a1, .ref a2, .ref a3, .ref a4, .int rg, .int hd, .int df, .ref a5, .ref a8, .long fl, .long ms, .long vo, .ref a9, .ref a10, .ref a13, .ref a14, .ref a15, .ref a16])), (a16, .inr (4, [.int 30, .int 3, .ref a19, .int o_35, .int o_36])), (a19, .inl (G.2.1.2, 90, .inr (.inl o_37)))]) (k' := 0) (n' := 0) F (sw_runV (R := ({ frames := 3, cells := 0, slots := 0, locals := 70 } : Room)) (q0 := 0) (na := 0) F T.2.1 T.2.2.1 (k_X8_filter l G a3 0 ts td tr tf r_5 (by assumption)) [0] rfl (by decide) gX6_followTransmitter_X8_filter rfl rfl rfl (by decide +kernel) ⟨Nat.le_of_ble_eq_true rfl, Nat.le_of_ble_eq_true rfl⟩ rfl rfl rfl rfl rfl (Nat.le_of_ble_eq_true rfl) dX6_followTransmitter_44 (Nat.le_of_ble_eq_true rfl) (Nat.le_of_ble_eq_true rfl)) [0] [1, 2, 3] rfl rfl (by decide) (by decide) rfl rfl (fun u_43 h_44 => ?_)
        obtain ⟨o_45, eu_43⟩ : ∃ z, z = u_43 := ⟨_, rfl⟩; subst eu_43
        have e_46 : o_45 = f_X8_filter_o0_4 0 ts td tr tf := h_44
        refine sw_eq (ws' := [(h0, .inr (6, [.int tm, .int ch, .ref a1, .ref a2, .ref a3, .ref a4, .int rg, .int hd, .int df, .ref a5, .ref a8, .long fl, .long ms, .long vo, .ref a9, .ref a10, .ref a13, .ref a14, .ref a15, .ref a16])), (a16, .inr (4, [.int 30, .int 3, .ref a19, .int o_35, .int o_36])), (a19, .inl (G.2.1.2, 90, .inr (.inl o_37))), (a3, .inr (8, [.int 0, .int ts, .int td, .int tr, .int o_45, .int r_5]))]) (lv' := [(3, .int r_5), (2, .ref a3), (0, .ref h0), (1, .int 2)]) (st' := []) rfl rfl rfl ?_
        subst e_46
        subst e_40
        subst e_39
        subst e_38
        subst e_8
        refine sw_perm (ws' := [(h0, .inr (6, [.int tm, .int ch, .ref a1, .ref a2, .ref a3, .ref a4, .int rg, .int hd, .int df, .ref a5, .ref a8, .long fl, .long ms, .long vo, .ref a9, .ref a10, .ref a13, .ref a14, .ref a15, .ref a16])), (a3, .inr (8, [.int 0, .int ts, .int td, .int tr, .int ((f_X8_filter_o0_4 0 ts td tr tf)), .int ((f_X8_isFaulty_r tr))])), (a16, .inr (4, [.int 30, .int 3, .ref a19, .int ((f_X6_log_o1_3 eo en)), .int ((f_X6_log_o1_4 en))])), (a19, .inl (G.2.1.2, 90, .inr (.inl ((f_X6_log_o2 tm eo en ef 0 2)))))]) [0, 3, 1, 2] (by decide) rfl ?_
        exact sw_vret (pc := 47) F T ((f_X8_filter_o0_4 0 ts td tr tf), (f_X8_isFaulty_r tr), (f_X6_log_o1_3 eo en), (f_X6_log_o1_4 en), (f_X6_log_o2 tm eo en ef 0 2)) ⟨(by unfold f_X6_followTransmitter_2_o1_4; rw [if_neg c_9, if_neg c_16, if_pos c_41]), rfl, (by unfold f_X6_followTransmitter_2_o2_3; rw [if_neg c_9]), (by unfold f_X6_followTransmitter_2_o2_4; rw [if_neg c_9]), (by unfold f_X6_followTransmitter_2_o3; rw [if_neg c_9, if_neg c_16])⟩ rfl dX6_followTransmitter_47
def f_X6_followTransmitter_3_o1_4 (ts : Int32) (td : Int32) (tr : Int32) (tf : Int32) (tw : Int32) : Int32 := if (f_X8_isFaulty_r tr) = tw then (if (f_X8_isFaulty_r tr) = 0 then ((f_X8_filter_o0_4 (-500) ts td tr tf)) else (tf)) else (if (f_X8_isFaulty_r tr) = 0 then (if (f_X8_isFaulty_r tr) = 0 then ((f_X8_filter_o0_4 (-500) ts td tr tf)) else (tf)) else (if (f_X8_isFaulty_r tr) = 0 then ((f_X8_filter_o0_4 (-500) ts td tr tf)) else (tf)))
def f_X6_followTransmitter_3_o1_5 (tr : Int32) : Int32 := (f_X8_isFaulty_r tr)
def f_X6_followTransmitter_3_o2_3 (tr : Int32) (tw : Int32) (eo : Int32) (en : Int32) : Int32 := if (f_X8_isFaulty_r tr) = tw then (eo) else ((f_X6_log_o1_3 eo en))
def f_X6_followTransmitter_3_o2_4 (tr : Int32) (tw : Int32) (en : Int32) : Int32 := if (f_X8_isFaulty_r tr) = tw then (en) else ((f_X6_log_o1_4 en))
def f_X6_followTransmitter_3_o3 (tm : Int32) (tr : Int32) (tw : Int32) (eo : Int32) (en : Int32) (ef : Nat → Int64) : Nat → Int64 := if (f_X8_isFaulty_r tr) = tw then (ef) else (if (f_X8_isFaulty_r tr) = 0 then ((f_X6_log_o2 tm eo en ef 1 3)) else ((f_X6_log_o2 tm eo en ef 0 3)))
set_option maxHeartbeats 4000000 in
set_option maxRecDepth 100000 in
theorem k_X6_followTransmitter_3 (l : Launch) (G : sw_E) (h0 : Nat) (a1 : Nat) (a2 : Nat) (a3 : Nat) (a4 : Nat) (a5 : Nat) (a8 : Nat) (a9 : Nat) (a10 : Nat) (a13 : Nat) (a14 : Nat) (a15 : Nat) (a16 : Nat) (a19 : Nat) (tm : Int32) (ch : Int32) (rg : Int32) (hd : Int32) (df : Int32) (fl : Int64) (ms : Int64) (vo : Int64) (ts : Int32) (td : Int32) (tr : Int32) (tf : Int32) (tw : Int32) (eo : Int32) (en : Int32) (ef : Nat → Int64) (hd0 : ¬ ((1 : Int32) <<< (td &&& 31)) = 0) : sw_M l G yX6_followTransmitter wsX6_followTransmitter ({ frames := 3, cells := 0, slots := 0, locals := 70 } : Room) [.ref h0, .int 3] [(h0, .inr (6, [.int tm, .int ch, .ref a1, .ref a2, .ref a3, .ref a4, .int rg, .int hd, .int df, .ref a5, .ref a8, .long fl, .long ms, .long vo, .ref a9, .ref a10, .ref a13, .ref a14, .ref a15, .ref a16])), (a4, .inr (8, [.int ((-500)), .int ts, .int td, .int tr, .int tf, .int tw])), (a16, .inr (4, [.int 30, .int 3, .ref a19, .int eo, .int en])), (a19, .inl (G.2.1.2, 90, .inr (.inl ef)))] (sw_QV G (S := Int32 × Int32 × Int32 × Int32 × (Nat → Int64)) (fun (u : Int32 × Int32 × Int32 × Int32 × (Nat → Int64)) => u.1 = f_X6_followTransmitter_3_o1_4 ts td tr tf tw ∧ u.2.1 = f_X6_followTransmitter_3_o1_5 tr ∧ u.2.2.1 = f_X6_followTransmitter_3_o2_3 tr tw eo en ∧ u.2.2.2.1 = f_X6_followTransmitter_3_o2_4 tr tw en ∧ u.2.2.2.2 = f_X6_followTransmitter_3_o3 tm tr tw eo en ef) (fun u => [(h0, .inr (6, [.int tm, .int ch, .ref a1, .ref a2, .ref a3, .ref a4, .int rg, .int hd, .int df, .ref a5, .ref a8, .long fl, .long ms, .long vo, .ref a9, .ref a10, .ref a13, .ref a14, .ref a15, .ref a16])), (a4, .inr (8, [.int ((-500)), .int ts, .int td, .int tr, .int u.1, .int u.2.1])), (a16, .inr (4, [.int 30, .int 3, .ref a19, .int u.2.2.1, .int u.2.2.2.1])), (a19, .inl (G.2.1.2, 90, .inr (.inl u.2.2.2.2)))])) 0 0 := by
  refine sw_start (cc := cX6_followTransmitter) (maxL := 4) (ret := none) (lv := [(0, .ref h0), (1, .int 3)]) (own := RX6) (nm := "followTransmitter") (by decide +kernel) rfl rfl rfl rfl (Nat.le_of_ble_eq_true rfl) (fun C F T => ?_)
  have in8 : ∀ w ∈ u_ws RX8 TX8 6, w ∈ wsX6_followTransmitter := fun w h => List.mem_cons_of_mem _ (List.mem_append_left _ (List.mem_append_left _ (List.mem_append_right _ (h))))
  refine sw_aload_n (pc := 0) F dX6_followTransmitter_0 rfl 0 rfl ?_
  refine sw_iload_n (pc := 1) F dX6_followTransmitter_1 rfl 1 rfl ?_
  refine sw_callr (pc := 2) (wr := [(a4, .inr (8, [.int ((-500)), .int ts, .int td, .int tr, .int tf, .int tw])), (a16, .inr (4, [.int 30, .int 3, .ref a19, .int eo, .int en])), (a19, .inl (G.2.1.2, 90, .inr (.inl ef)))]) (k' := 0) (n' := 0) F (sw_runV (R := ({ frames := 3, cells := 0, slots := 0, locals := 70 } : Room)) (q0 := 0) (na := 1) F T.2.1 T.2.2.1 (k_X6_transmitterAt_3 l G h0 a1 a2 a3 a4 a5 a8 a9 a10 a13 a14 a15 a16 tm ch rg hd df fl ms vo) [0] rfl (by decide) gX6_followTransmitter_X6_transmitterAt rfl rfl rfl (by decide +kernel) ⟨Nat.le_of_ble_eq_true rfl, Nat.le_of_ble_eq_true rfl⟩ rfl rfl rfl rfl rfl (Nat.le_of_ble_eq_true rfl) dX6_followTransmitter_2 (Nat.le_of_ble_eq_true rfl) (Nat.le_of_ble_eq_true rfl)) [0] [1, 2, 3] rfl rfl (by decide) (by decide) rfl rfl (fun r_1 u_2 h_3 => ?_)
  have e_4 : r_1 = a4 := h_3
  refine sw_eqt (v := .ref a4) (by rw [e_4]) ?_
  refine sw_eq (ws' := [(a4, .inr (8, [.int ((-500)), .int ts, .int td, .int tr, .int tf, .int tw])), (a16, .inr (4, [.int 30, .int 3, .ref a19, .int eo, .int en])), (a19, .inl (G.2.1.2, 90, .inr (.inl ef))), (h0, .inr (6, [.int tm, .int ch, .ref a1, .ref a2, .ref a3, .ref a4, .int rg, .int hd, .int df, .ref a5, .ref a8, .long fl, .long ms, .long vo, .ref a9, .ref a10, .ref a13, .ref a14, .ref a15, .ref a16]))]) (lv' := [(0, .ref h0), (1, .int 3)]) (st' := [.ref a4]) rfl rfl rfl ?_
  refine sw_astore_n (pc := 5) (lv' := [(2, .ref a4), (0, .ref h0), (1, .int 3)]) F T.1 dX6_followTransmitter_5 rfl (by decide) rfl ?_
  refine sw_aload_n (pc := 6) F dX6_followTransmitter_6 rfl 0 rfl ?_
  refine sw_calli (pc := 7) (wr := [(a16, .inr (4, [.int 30, .int 3, .ref a19, .int eo, .int en])), (a19, .inl (G.2.1.2, 90, .inr (.inl ef))), (h0, .inr (6, [.int tm, .int ch, .ref a1, .ref a2, .ref a3, .ref a4, .int rg, .int hd, .int df, .ref a5, .ref a8, .long fl, .long ms, .long vo, .ref a9, .ref a10, .ref a13, .ref a14, .ref a15, .ref a16]))]) (k' := 0) (n' := 0) F (sw_runV (R := ({ frames := 3, cells := 0, slots := 0, locals := 70 } : Room)) (q0 := 0) (na := 0) F T.2.1 T.2.2.1 (k_X8_isFaulty l G a4 (-500) ts td tr tf tw) [0] rfl (by decide) gX6_followTransmitter_X8_isFaulty rfl rfl rfl (by decide +kernel) ⟨Nat.le_of_ble_eq_true rfl, Nat.le_of_ble_eq_true rfl⟩ rfl rfl rfl rfl rfl (Nat.le_of_ble_eq_true rfl) dX6_followTransmitter_7 (Nat.le_of_ble_eq_true rfl) (Nat.le_of_ble_eq_true rfl)) [0] [1, 2, 3] rfl rfl (by decide) (by decide) rfl rfl (fun r_5 u_6 h_7 => ?_)
  have e_8 : r_5 = f_X8_isFaulty_r tr := h_7
  refine sw_eq (ws' := [(a16, .inr (4, [.int 30, .int 3, .ref a19, .int eo, .int en])), (a19, .inl (G.2.1.2, 90, .inr (.inl ef))), (h0, .inr (6, [.int tm, .int ch, .ref a1, .ref a2, .ref a3, .ref a4, .int rg, .int hd, .int df, .ref a5, .ref a8, .long fl, .long ms, .long vo, .ref a9, .ref a10, .ref a13, .ref a14, .ref a15, .ref a16])), (a4, .inr (8, [.int ((-500)), .int ts, .int td, .int tr, .int tf, .int tw]))]) (lv' := [(2, .ref a4), (0, .ref h0), (1, .int 3)]) (st' := [.int r_5]) rfl rfl rfl ?_
  refine sw_istore_n (pc := 10) (lv' := [(3, .int r_5), (2, .ref a4), (0, .ref h0), (1, .int 3)]) F T.1 dX6_followTransmitter_10 rfl (by decide) rfl ?_
  refine sw_iload_n (pc := 11) F dX6_followTransmitter_11 rfl 0 rfl ?_
  refine sw_aload_n (pc := 12) F dX6_followTransmitter_12 rfl 1 rfl ?_
  refine sw_get (pc := 13) (Cn := RX8) (T := TX8) (N := 6) (ci := 8) (v := .int tw) F in8 3 rfl rfl 5 (by decide) rfl (List.mem_of_getElem? (i := 1) rfl) rfl dX6_followTransmitter_13 ?_
  refine sw_icmp_eq (pc := 16) (tgt := 34) F dX6_followTransmitter_16 (by decide) (fun c_9 => ?_) (fun c_9 => ?_)
  · skip
    refine sw_aload_n (pc := 34) F dX6_followTransmitter_34 rfl 1 rfl ?_
    refine sw_iload_n (pc := 35) F dX6_followTransmitter_35 rfl 0 rfl ?_
    refine sw_put (pc := 36) (Cn := RX8) (T := TX8) (N := 6) (ci := 8) (ty0 := tyX8) (ws' := [(a16, .inr (4, [.int 30, .int 3, .ref a19, .int eo, .int en])), (a19, .inl (G.2.1.2, 90, .inr (.inl ef))), (h0, .inr (6, [.int tm, .int ch, .ref a1, .ref a2, .ref a3, .ref a4, .int rg, .int hd, .int df, .ref a5, .ref a8, .long fl, .long ms, .long vo, .ref a9, .ref a10, .ref a13, .ref a14, .ref a15, .ref a16])), (a4, .inr (8, [.int ((-500)), .int ts, .int td, .int tr, .int tf, .int r_5]))]) F in8 tyX8_ok nmX8 3 rfl rfl 5 (by decide) rfl (List.mem_of_getElem? (i := 1) rfl) rfl (sw_nb (by rw [e_8]; exact isFaulty_b _)).1 (sw_nb (by rw [e_8]; exact isFaulty_b _)).2 (Nat.le_of_ble_eq_true rfl) dX6_followTransmitter_36 rfl ?_
    refine sw_iload_n (pc := 39) F dX6_followTransmitter_39 rfl 0 rfl ?_
    refine sw_if_ne (pc := 40) (tgt := 47) F dX6_followTransmitter_40 (by decide) (fun c_10 => ?_) (fun c_10 => ?_)
    · skip
      subst e_8
      refine sw_perm (ws' := [(h0, .inr (6, [.int tm, .int ch, .ref a1, .ref a2, .ref a3, .ref a4, .int rg, .int hd, .int df, .ref a5, .ref a8, .long fl, .long ms, .long vo, .ref a9, .ref a10, .ref a13, .ref a14, .ref a15, .ref a16])), (a4, .inr (8, [.int ((-500)), .int ts, .int td, .int tr, .int tf, .int ((f_X8_isFaulty_r tr))])), (a16, .inr (4, [.int 30, .int 3, .ref a19, .int eo, .int en])), (a19, .inl (G.2.1.2, 90, .inr (.inl ef)))]) [2, 3, 0, 1] (by decide) rfl ?_
      exact sw_vret (pc := 47) F T (tf, (f_X8_isFaulty_r tr), eo, en, ef) ⟨(by unfold f_X6_followTransmitter_3_o1_4; rw [if_pos c_9, if_neg c_10]), rfl, (by unfold f_X6_followTransmitter_3_o2_3; rw [if_pos c_9]), (by unfold f_X6_followTransmitter_3_o2_4; rw [if_pos c_9]), (by unfold f_X6_followTransmitter_3_o3; rw [if_pos c_9])⟩ rfl dX6_followTransmitter_47
    · skip
      refine sw_aload_n (pc := 43) F dX6_followTransmitter_43 rfl 1 rfl ?_
      refine sw_callv (pc := 44) (wr := [(a16, .inr (4, [.int 30, .int 3, .ref a19, .int eo, .int en])), (a19, .inl (G.2.1.2, 90, .inr (.inl ef))), (h0, .inr (6, [.int tm, .int ch, .ref a1, .ref a2, .ref a3, .ref a4, .int rg, .int hd, .int df, .ref a5, .ref a8, .long fl, .long ms, .long vo, .ref a9, .ref a10, .ref a13, .ref a14, .ref a15, .ref a16]))]) (k' := 0) (n' := 0) F (sw_runV (R := ({ frames := 3, cells := 0, slots := 0, locals := 70 } : Room)) (q0 := 0) (na := 0) F T.2.1 T.2.2.1 (k_X8_filter l G a4 (-500) ts td tr tf r_5 (by assumption)) [3] rfl (by decide) gX6_followTransmitter_X8_filter rfl rfl rfl (by decide +kernel) ⟨Nat.le_of_ble_eq_true rfl, Nat.le_of_ble_eq_true rfl⟩ rfl rfl rfl rfl rfl (Nat.le_of_ble_eq_true rfl) dX6_followTransmitter_44 (Nat.le_of_ble_eq_true rfl) (Nat.le_of_ble_eq_true rfl)) [3] [0, 1, 2] rfl rfl (by decide) (by decide) rfl rfl (fun u_12 h_13 => ?_)
      obtain ⟨o_14, eu_12⟩ : ∃ z, z = u_12 := ⟨_, rfl⟩; subst eu_12
      have e_15 : o_14 = f_X8_filter_o0_4 (-500) ts td tr tf := h_13
      refine sw_eq (ws' := [(a16, .inr (4, [.int 30, .int 3, .ref a19, .int eo, .int en])), (a19, .inl (G.2.1.2, 90, .inr (.inl ef))), (h0, .inr (6, [.int tm, .int ch, .ref a1, .ref a2, .ref a3, .ref a4, .int rg, .int hd, .int df, .ref a5, .ref a8, .long fl, .long ms, .long vo, .ref a9, .ref a10, .ref a13, .ref a14, .ref a15, .ref a16])), (a4, .inr (8, [.int ((-500)), .int ts, .int td, .int tr, .int o_14, .int r_5]))]) (lv' := [(3, .int r_5), (2, .ref a4), (0, .ref h0), (1, .int 3)]) (st' := []) rfl rfl rfl ?_
      subst e_15
      subst e_8
      refine sw_perm (ws' := [(h0, .inr (6, [.int tm, .int ch, .ref a1, .ref a2, .ref a3, .ref a4, .int rg, .int hd, .int df, .ref a5, .ref a8, .long fl, .long ms, .long vo, .ref a9, .ref a10, .ref a13, .ref a14, .ref a15, .ref a16])), (a4, .inr (8, [.int ((-500)), .int ts, .int td, .int tr, .int ((f_X8_filter_o0_4 (-500) ts td tr tf)), .int ((f_X8_isFaulty_r tr))])), (a16, .inr (4, [.int 30, .int 3, .ref a19, .int eo, .int en])), (a19, .inl (G.2.1.2, 90, .inr (.inl ef)))]) [2, 3, 0, 1] (by decide) rfl ?_
      exact sw_vret (pc := 47) F T ((f_X8_filter_o0_4 (-500) ts td tr tf), (f_X8_isFaulty_r tr), eo, en, ef) ⟨(by unfold f_X6_followTransmitter_3_o1_4; rw [if_pos c_9, if_pos c_10]), rfl, (by unfold f_X6_followTransmitter_3_o2_3; rw [if_pos c_9]), (by unfold f_X6_followTransmitter_3_o2_4; rw [if_pos c_9]), (by unfold f_X6_followTransmitter_3_o3; rw [if_pos c_9])⟩ rfl dX6_followTransmitter_47
  · skip
    refine sw_aload_n (pc := 19) F dX6_followTransmitter_19 rfl 2 rfl ?_
    refine sw_iload_n (pc := 20) F dX6_followTransmitter_20 rfl 0 rfl ?_
    refine sw_if_eq (pc := 21) (tgt := 28) F dX6_followTransmitter_21 (by decide) (fun c_16 => ?_) (fun c_16 => ?_)
    · skip
      refine sw_iconst (pc := 28) (v := 1) F dX6_followTransmitter_28 rfl ?_
      refine sw_iload_n (pc := 29) F dX6_followTransmitter_29 rfl 3 rfl ?_
      refine sw_i2l (pc := 30) (v := 3) F dX6_followTransmitter_30 rfl ?_
      refine sw_callv (pc := 31) (wr := [(a4, .inr (8, [.int ((-500)), .int ts, .int td, .int tr, .int tf, .int tw]))]) (k' := 0) (n' := 0) F (sw_runV (R := ({ frames := 3, cells := 0, slots := 0, locals := 70 } : Room)) (q0 := 0) (na := 2) F T.2.1 T.2.2.1 (k_X6_log l G h0 a1 a2 a3 a4 a5 a8 a9 a10 a13 a14 a15 a16 a19 tm ch rg hd df fl ms vo eo en ef 1 3) [2, 0, 1] rfl (by decide) gX6_followTransmitter_X6_log rfl rfl rfl (by decide +kernel) ⟨Nat.le_of_ble_eq_true rfl, Nat.le_of_ble_eq_true rfl⟩ rfl rfl rfl rfl rfl (Nat.le_of_ble_eq_true rfl) dX6_followTransmitter_31 (Nat.le_of_ble_eq_true rfl) (Nat.le_of_ble_eq_true rfl)) [2, 0, 1] [3] rfl rfl (by decide) (by decide) rfl rfl (fun u_18 h_19 => ?_)
      obtain ⟨o_20, o_21, o_22⟩ := u_18
      obtain ⟨e_23, e_24, e_25⟩ : o_20 = f_X6_log_o1_3 eo en ∧ o_21 = f_X6_log_o1_4 en ∧ o_22 = f_X6_log_o2 tm eo en ef 1 3 := h_19
      refine sw_eq (ws' := [(a4, .inr (8, [.int ((-500)), .int ts, .int td, .int tr, .int tf, .int tw])), (h0, .inr (6, [.int tm, .int ch, .ref a1, .ref a2, .ref a3, .ref a4, .int rg, .int hd, .int df, .ref a5, .ref a8, .long fl, .long ms, .long vo, .ref a9, .ref a10, .ref a13, .ref a14, .ref a15, .ref a16])), (a16, .inr (4, [.int 30, .int 3, .ref a19, .int o_20, .int o_21])), (a19, .inl (G.2.1.2, 90, .inr (.inl o_22)))]) (lv' := [(3, .int r_5), (2, .ref a4), (0, .ref h0), (1, .int 3)]) (st' := []) rfl rfl rfl ?_
      refine sw_aload_n (pc := 34) F dX6_followTransmitter_34 rfl 1 rfl ?_
      refine sw_iload_n (pc := 35) F dX6_followTransmitter_35 rfl 0 rfl ?_
      refine sw_put (pc := 36) (Cn := RX8) (T := TX8) (N := 6) (ci := 8) (ty0 := tyX8) (ws' := [(a4, .inr (8, [.int ((-500)), .int ts, .int td, .int tr, .int tf, .int r_5])), (h0, .inr (6, [.int tm, .int ch, .ref a1, .ref a2, .ref a3, .ref a4, .int rg, .int hd, .int df, .ref a5, .ref a8, .long fl, .long ms, .long vo, .ref a9, .ref a10, .ref a13, .ref a14, .ref a15, .ref a16])), (a16, .inr (4, [.int 30, .int 3, .ref a19, .int o_20, .int o_21])), (a19, .inl (G.2.1.2, 90, .inr (.inl o_22)))]) F in8 tyX8_ok nmX8 0 rfl rfl 5 (by decide) rfl (List.mem_of_getElem? (i := 1) rfl) rfl (sw_nb (by rw [e_8]; exact isFaulty_b _)).1 (sw_nb (by rw [e_8]; exact isFaulty_b _)).2 (Nat.le_of_ble_eq_true rfl) dX6_followTransmitter_36 rfl ?_
      refine sw_iload_n (pc := 39) F dX6_followTransmitter_39 rfl 0 rfl ?_
      refine sw_if_ne (pc := 40) (tgt := 47) F dX6_followTransmitter_40 (by decide) (fun c_26 => ?_) (fun c_26 => ?_)
      · skip
        subst e_25
        subst e_24
        subst e_23
        subst e_8
        refine sw_perm (ws' := [(h0, .inr (6, [.int tm, .int ch, .ref a1, .ref a2, .ref a3, .ref a4, .int rg, .int hd, .int df, .ref a5, .ref a8, .long fl, .long ms, .long vo, .ref a9, .ref a10, .ref a13, .ref a14, .ref a15, .ref a16])), (a4, .inr (8, [.int ((-500)), .int ts, .int td, .int tr, .int tf, .int ((f_X8_isFaulty_r tr))])), (a16, .inr (4, [.int 30, .int 3, .ref a19, .int ((f_X6_log_o1_3 eo en)), .int ((f_X6_log_o1_4 en))])), (a19, .inl (G.2.1.2, 90, .inr (.inl ((f_X6_log_o2 tm eo en ef 1 3)))))]) [1, 0, 2, 3] (by decide) rfl ?_
        exact sw_vret (pc := 47) F T (tf, (f_X8_isFaulty_r tr), (f_X6_log_o1_3 eo en), (f_X6_log_o1_4 en), (f_X6_log_o2 tm eo en ef 1 3)) ⟨(by unfold f_X6_followTransmitter_3_o1_4; rw [if_neg c_9, if_pos c_16, if_neg c_26]), rfl, (by unfold f_X6_followTransmitter_3_o2_3; rw [if_neg c_9]), (by unfold f_X6_followTransmitter_3_o2_4; rw [if_neg c_9]), (by unfold f_X6_followTransmitter_3_o3; rw [if_neg c_9, if_pos c_16])⟩ rfl dX6_followTransmitter_47
      · skip
        refine sw_aload_n (pc := 43) F dX6_followTransmitter_43 rfl 1 rfl ?_
        refine sw_callv (pc := 44) (wr := [(h0, .inr (6, [.int tm, .int ch, .ref a1, .ref a2, .ref a3, .ref a4, .int rg, .int hd, .int df, .ref a5, .ref a8, .long fl, .long ms, .long vo, .ref a9, .ref a10, .ref a13, .ref a14, .ref a15, .ref a16])), (a16, .inr (4, [.int 30, .int 3, .ref a19, .int o_20, .int o_21])), (a19, .inl (G.2.1.2, 90, .inr (.inl o_22)))]) (k' := 0) (n' := 0) F (sw_runV (R := ({ frames := 3, cells := 0, slots := 0, locals := 70 } : Room)) (q0 := 0) (na := 0) F T.2.1 T.2.2.1 (k_X8_filter l G a4 (-500) ts td tr tf r_5 (by assumption)) [0] rfl (by decide) gX6_followTransmitter_X8_filter rfl rfl rfl (by decide +kernel) ⟨Nat.le_of_ble_eq_true rfl, Nat.le_of_ble_eq_true rfl⟩ rfl rfl rfl rfl rfl (Nat.le_of_ble_eq_true rfl) dX6_followTransmitter_44 (Nat.le_of_ble_eq_true rfl) (Nat.le_of_ble_eq_true rfl)) [0] [1, 2, 3] rfl rfl (by decide) (by decide) rfl rfl (fun u_28 h_29 => ?_)
        obtain ⟨o_30, eu_28⟩ : ∃ z, z = u_28 := ⟨_, rfl⟩; subst eu_28
        have e_31 : o_30 = f_X8_filter_o0_4 (-500) ts td tr tf := h_29
        refine sw_eq (ws' := [(h0, .inr (6, [.int tm, .int ch, .ref a1, .ref a2, .ref a3, .ref a4, .int rg, .int hd, .int df, .ref a5, .ref a8, .long fl, .long ms, .long vo, .ref a9, .ref a10, .ref a13, .ref a14, .ref a15, .ref a16])), (a16, .inr (4, [.int 30, .int 3, .ref a19, .int o_20, .int o_21])), (a19, .inl (G.2.1.2, 90, .inr (.inl o_22))), (a4, .inr (8, [.int ((-500)), .int ts, .int td, .int tr, .int o_30, .int r_5]))]) (lv' := [(3, .int r_5), (2, .ref a4), (0, .ref h0), (1, .int 3)]) (st' := []) rfl rfl rfl ?_
        subst e_31
        subst e_25
        subst e_24
        subst e_23
        subst e_8
        refine sw_perm (ws' := [(h0, .inr (6, [.int tm, .int ch, .ref a1, .ref a2, .ref a3, .ref a4, .int rg, .int hd, .int df, .ref a5, .ref a8, .long fl, .long ms, .long vo, .ref a9, .ref a10, .ref a13, .ref a14, .ref a15, .ref a16])), (a4, .inr (8, [.int ((-500)), .int ts, .int td, .int tr, .int ((f_X8_filter_o0_4 (-500) ts td tr tf)), .int ((f_X8_isFaulty_r tr))])), (a16, .inr (4, [.int 30, .int 3, .ref a19, .int ((f_X6_log_o1_3 eo en)), .int ((f_X6_log_o1_4 en))])), (a19, .inl (G.2.1.2, 90, .inr (.inl ((f_X6_log_o2 tm eo en ef 1 3)))))]) [0, 3, 1, 2] (by decide) rfl ?_
        exact sw_vret (pc := 47) F T ((f_X8_filter_o0_4 (-500) ts td tr tf), (f_X8_isFaulty_r tr), (f_X6_log_o1_3 eo en), (f_X6_log_o1_4 en), (f_X6_log_o2 tm eo en ef 1 3)) ⟨(by unfold f_X6_followTransmitter_3_o1_4; rw [if_neg c_9, if_pos c_16, if_pos c_26]), rfl, (by unfold f_X6_followTransmitter_3_o2_3; rw [if_neg c_9]), (by unfold f_X6_followTransmitter_3_o2_4; rw [if_neg c_9]), (by unfold f_X6_followTransmitter_3_o3; rw [if_neg c_9, if_pos c_16])⟩ rfl dX6_followTransmitter_47
    · skip
      refine sw_iconst (pc := 24) (v := 0) F dX6_followTransmitter_24 rfl ?_
      refine sw_goto (pc := 25) (tgt := 29) F dX6_followTransmitter_25 (by decide) ?_
      refine sw_iload_n (pc := 29) F dX6_followTransmitter_29 rfl 3 rfl ?_
      refine sw_i2l (pc := 30) (v := 3) F dX6_followTransmitter_30 rfl ?_
      refine sw_callv (pc := 31) (wr := [(a4, .inr (8, [.int ((-500)), .int ts, .int td, .int tr, .int tf, .int tw]))]) (k' := 0) (n' := 0) F (sw_runV (R := ({ frames := 3, cells := 0, slots := 0, locals := 70 } : Room)) (q0 := 0) (na := 2) F T.2.1 T.2.2.1 (k_X6_log l G h0 a1 a2 a3 a4 a5 a8 a9 a10 a13 a14 a15 a16 a19 tm ch rg hd df fl ms vo eo en ef 0 3) [2, 0, 1] rfl (by decide) gX6_followTransmitter_X6_log rfl rfl rfl (by decide +kernel) ⟨Nat.le_of_ble_eq_true rfl, Nat.le_of_ble_eq_true rfl⟩ rfl rfl rfl rfl rfl (Nat.le_of_ble_eq_true rfl) dX6_followTransmitter_31 (Nat.le_of_ble_eq_true rfl) (Nat.le_of_ble_eq_true rfl)) [2, 0, 1] [3] rfl rfl (by decide) (by decide) rfl rfl (fun u_33 h_34 => ?_)
      obtain ⟨o_35, o_36, o_37⟩ := u_33
      obtain ⟨e_38, e_39, e_40⟩ : o_35 = f_X6_log_o1_3 eo en ∧ o_36 = f_X6_log_o1_4 en ∧ o_37 = f_X6_log_o2 tm eo en ef 0 3 := h_34
      refine sw_eq (ws' := [(a4, .inr (8, [.int ((-500)), .int ts, .int td, .int tr, .int tf, .int tw])), (h0, .inr (6, [.int tm, .int ch, .ref a1, .ref a2, .ref a3, .ref a4, .int rg, .int hd, .int df, .ref a5, .ref a8, .long fl, .long ms, .long vo, .ref a9, .ref a10, .ref a13, .ref a14, .ref a15, .ref a16])), (a16, .inr (4, [.int 30, .int 3, .ref a19, .int o_35, .int o_36])), (a19, .inl (G.2.1.2, 90, .inr (.inl o_37)))]) (lv' := [(3, .int r_5), (2, .ref a4), (0, .ref h0), (1, .int 3)]) (st' := []) rfl rfl rfl ?_
      refine sw_aload_n (pc := 34) F dX6_followTransmitter_34 rfl 1 rfl ?_
      refine sw_iload_n (pc := 35) F dX6_followTransmitter_35 rfl 0 rfl ?_
      refine sw_put (pc := 36) (Cn := RX8) (T := TX8) (N := 6) (ci := 8) (ty0 := tyX8) (ws' := [(a4, .inr (8, [.int ((-500)), .int ts, .int td, .int tr, .int tf, .int r_5])), (h0, .inr (6, [.int tm, .int ch, .ref a1, .ref a2, .ref a3, .ref a4, .int rg, .int hd, .int df, .ref a5, .ref a8, .long fl, .long ms, .long vo, .ref a9, .ref a10, .ref a13, .ref a14, .ref a15, .ref a16])), (a16, .inr (4, [.int 30, .int 3, .ref a19, .int o_35, .int o_36])), (a19, .inl (G.2.1.2, 90, .inr (.inl o_37)))]) F in8 tyX8_ok nmX8 0 rfl rfl 5 (by decide) rfl (List.mem_of_getElem? (i := 1) rfl) rfl (sw_nb (by rw [e_8]; exact isFaulty_b _)).1 (sw_nb (by rw [e_8]; exact isFaulty_b _)).2 (Nat.le_of_ble_eq_true rfl) dX6_followTransmitter_36 rfl ?_
      refine sw_iload_n (pc := 39) F dX6_followTransmitter_39 rfl 0 rfl ?_
      refine sw_if_ne (pc := 40) (tgt := 47) F dX6_followTransmitter_40 (by decide) (fun c_41 => ?_) (fun c_41 => ?_)
      · skip
        subst e_40
        subst e_39
        subst e_38
        subst e_8
        refine sw_perm (ws' := [(h0, .inr (6, [.int tm, .int ch, .ref a1, .ref a2, .ref a3, .ref a4, .int rg, .int hd, .int df, .ref a5, .ref a8, .long fl, .long ms, .long vo, .ref a9, .ref a10, .ref a13, .ref a14, .ref a15, .ref a16])), (a4, .inr (8, [.int ((-500)), .int ts, .int td, .int tr, .int tf, .int ((f_X8_isFaulty_r tr))])), (a16, .inr (4, [.int 30, .int 3, .ref a19, .int ((f_X6_log_o1_3 eo en)), .int ((f_X6_log_o1_4 en))])), (a19, .inl (G.2.1.2, 90, .inr (.inl ((f_X6_log_o2 tm eo en ef 0 3)))))]) [1, 0, 2, 3] (by decide) rfl ?_
        exact sw_vret (pc := 47) F T (tf, (f_X8_isFaulty_r tr), (f_X6_log_o1_3 eo en), (f_X6_log_o1_4 en), (f_X6_log_o2 tm eo en ef 0 3)) ⟨(by unfold f_X6_followTransmitter_3_o1_4; rw [if_neg c_9, if_neg c_16, if_neg c_41]), rfl, (by unfold f_X6_followTransmitter_3_o2_3; rw [if_neg c_9]), (by unfold f_X6_followTransmitter_3_o2_4; rw [if_neg c_9]), (by unfold f_X6_followTransmitter_3_o3; rw [if_neg c_9, if_neg c_16])⟩ rfl dX6_followTransmitter_47
      · skip
        refine sw_aload_n (pc := 43) F dX6_followTransmitter_43 rfl 1 rfl ?_
        refine sw_callv (pc := 44) (wr := [(h0, .inr (6, [.int tm, .int ch, .ref a1, .ref a2, .ref a3, .ref a4, .int rg, .int hd, .int df, .ref a5, .ref a8, .long fl, .long ms, .long vo, .ref a9, .ref a10, .ref a13, .ref a14, .ref a15, .ref a16])), (a16, .inr (4, [.int 30, .int 3, .ref a19, .int o_35, .int o_36])), (a19, .inl (G.2.1.2, 90, .inr (.inl o_37)))]) (k' := 0) (n' := 0) F (sw_runV (R := ({ frames := 3, cells := 0, slots := 0, locals := 70 } : Room)) (q0 := 0) (na := 0) F T.2.1 T.2.2.1 (k_X8_filter l G a4 (-500) ts td tr tf r_5 (by assumption)) [0] rfl (by decide) gX6_followTransmitter_X8_filter rfl rfl rfl (by decide +kernel) ⟨Nat.le_of_ble_eq_true rfl, Nat.le_of_ble_eq_true rfl⟩ rfl rfl rfl rfl rfl (Nat.le_of_ble_eq_true rfl) dX6_followTransmitter_44 (Nat.le_of_ble_eq_true rfl) (Nat.le_of_ble_eq_true rfl)) [0] [1, 2, 3] rfl rfl (by decide) (by decide) rfl rfl (fun u_43 h_44 => ?_)
        obtain ⟨o_45, eu_43⟩ : ∃ z, z = u_43 := ⟨_, rfl⟩; subst eu_43
        have e_46 : o_45 = f_X8_filter_o0_4 (-500) ts td tr tf := h_44
        refine sw_eq (ws' := [(h0, .inr (6, [.int tm, .int ch, .ref a1, .ref a2, .ref a3, .ref a4, .int rg, .int hd, .int df, .ref a5, .ref a8, .long fl, .long ms, .long vo, .ref a9, .ref a10, .ref a13, .ref a14, .ref a15, .ref a16])), (a16, .inr (4, [.int 30, .int 3, .ref a19, .int o_35, .int o_36])), (a19, .inl (G.2.1.2, 90, .inr (.inl o_37))), (a4, .inr (8, [.int ((-500)), .int ts, .int td, .int tr, .int o_45, .int r_5]))]) (lv' := [(3, .int r_5), (2, .ref a4), (0, .ref h0), (1, .int 3)]) (st' := []) rfl rfl rfl ?_
        subst e_46
        subst e_40
        subst e_39
        subst e_38
        subst e_8
        refine sw_perm (ws' := [(h0, .inr (6, [.int tm, .int ch, .ref a1, .ref a2, .ref a3, .ref a4, .int rg, .int hd, .int df, .ref a5, .ref a8, .long fl, .long ms, .long vo, .ref a9, .ref a10, .ref a13, .ref a14, .ref a15, .ref a16])), (a4, .inr (8, [.int ((-500)), .int ts, .int td, .int tr, .int ((f_X8_filter_o0_4 (-500) ts td tr tf)), .int ((f_X8_isFaulty_r tr))])), (a16, .inr (4, [.int 30, .int 3, .ref a19, .int ((f_X6_log_o1_3 eo en)), .int ((f_X6_log_o1_4 en))])), (a19, .inl (G.2.1.2, 90, .inr (.inl ((f_X6_log_o2 tm eo en ef 0 3)))))]) [0, 3, 1, 2] (by decide) rfl ?_
        exact sw_vret (pc := 47) F T ((f_X8_filter_o0_4 (-500) ts td tr tf), (f_X8_isFaulty_r tr), (f_X6_log_o1_3 eo en), (f_X6_log_o1_4 en), (f_X6_log_o2 tm eo en ef 0 3)) ⟨(by unfold f_X6_followTransmitter_3_o1_4; rw [if_neg c_9, if_neg c_16, if_pos c_41]), rfl, (by unfold f_X6_followTransmitter_3_o2_3; rw [if_neg c_9]), (by unfold f_X6_followTransmitter_3_o2_4; rw [if_neg c_9]), (by unfold f_X6_followTransmitter_3_o3; rw [if_neg c_9, if_neg c_16])⟩ rfl dX6_followTransmitter_47
def f_X6_chosenRange_r (rg : Int32) (ts : Int32) (tr : Int32) (tf : Int32) (ur : Int32) (uf : Int32) : Int32 := if (f_X8_isFaulty_r tr) = 0 then (if (f_X8_isFaulty_r tr) = 0 then (if (f_X8_isFaulty_r ur) = 0 then (if rg = 0 then (if tf < (f_J9_floorDiv_7cf53_r (95 * ts) 100) then (0) else (1)) else (if (f_J9_floorDiv_7cf53_r (90 * ts) 100) ≤ uf then (1) else (0))) else (0)) else (1)) else (if (f_X8_isFaulty_r ur) = 0 then (if (f_X8_isFaulty_r tr) = 0 then (if (f_X8_isFaulty_r ur) = 0 then (if rg = 0 then (if tf < (f_J9_floorDiv_7cf53_r (95 * ts) 100) then (0) else (1)) else (if (f_J9_floorDiv_7cf53_r (90 * ts) 100) ≤ uf then (1) else (0))) else (0)) else (1)) else (rg))
set_option maxHeartbeats 4000000 in
set_option maxRecDepth 100000 in
theorem k_X6_chosenRange (l : Launch) (G : sw_E) (h0 : Nat) (a1 : Nat) (a2 : Nat) (a3 : Nat) (a4 : Nat) (a5 : Nat) (a8 : Nat) (a9 : Nat) (a10 : Nat) (a13 : Nat) (a14 : Nat) (a15 : Nat) (a16 : Nat) (tm : Int32) (ch : Int32) (rg : Int32) (hd : Int32) (df : Int32) (fl : Int64) (ms : Int64) (vo : Int64) (ts : Int32) (td : Int32) (tr : Int32) (tf : Int32) (tw : Int32) (us : Int32) (ud : Int32) (ur : Int32) (uf : Int32) (uw : Int32)  : sw_M l G yX6_chosenRange wsX6_chosenRange ({ frames := 1, cells := 0, slots := 0, locals := 22 } : Room) [.ref h0] [(h0, .inr (6, [.int tm, .int ch, .ref a1, .ref a2, .ref a3, .ref a4, .int rg, .int hd, .int df, .ref a5, .ref a8, .long fl, .long ms, .long vo, .ref a9, .ref a10, .ref a13, .ref a14, .ref a15, .ref a16])), (a1, .inr (8, [.int 0, .int ts, .int td, .int tr, .int tf, .int tw])), (a2, .inr (8, [.int 0, .int us, .int ud, .int ur, .int uf, .int uw]))] (sw_QI G (S := Unit) (fun (r : Int32) (_ : Unit) => r = f_X6_chosenRange_r rg ts tr tf ur uf) (fun _ => [(h0, .inr (6, [.int tm, .int ch, .ref a1, .ref a2, .ref a3, .ref a4, .int rg, .int hd, .int df, .ref a5, .ref a8, .long fl, .long ms, .long vo, .ref a9, .ref a10, .ref a13, .ref a14, .ref a15, .ref a16])), (a1, .inr (8, [.int 0, .int ts, .int td, .int tr, .int tf, .int tw])), (a2, .inr (8, [.int 0, .int us, .int ud, .int ur, .int uf, .int uw]))])) 0 0 := by
  refine sw_start (cc := cX6_chosenRange) (maxL := 3) (ret := some .int) (lv := [(0, .ref h0)]) (own := RX6) (nm := "chosenRange") (by decide +kernel) rfl rfl rfl rfl (Nat.le_of_ble_eq_true rfl) (fun C F T => ?_)
  have in6 : ∀ w ∈ u_ws RX6 TX6 20, w ∈ wsX6_chosenRange := fun w h => List.mem_cons_of_mem _ (List.mem_append_left _ (List.mem_append_right _ (h)))
  have in8 : ∀ w ∈ u_ws RX8 TX8 6, w ∈ wsX6_chosenRange := fun w h => List.mem_cons_of_mem _ (List.mem_append_right _ (h))
  refine sw_aload_n (pc := 0) F dX6_chosenRange_0 rfl 0 rfl ?_
  refine sw_get (pc := 1) (Cn := RX6) (T := TX6) (N := 20) (ci := 6) (v := .ref a1) F in6 0 rfl rfl 2 (by decide) rfl (List.mem_of_getElem? (i := 1) rfl) rfl dX6_chosenRange_1 ?_
  refine sw_calli (pc := 4) (wr := [(h0, .inr (6, [.int tm, .int ch, .ref a1, .ref a2, .ref a3, .ref a4, .int rg, .int hd, .int df, .ref a5, .ref a8, .long fl, .long ms, .long vo, .ref a9, .ref a10, .ref a13, .ref a14, .ref a15, .ref a16])), (a2, .inr (8, [.int 0, .int us, .int ud, .int ur, .int uf, .int uw]))]) (k' := 0) (n' := 0) F (sw_runV (R := ({ frames := 1, cells := 0, slots := 0, locals := 22 } : Room)) (q0 := 0) (na := 0) F T.2.1 T.2.2.1 (k_X8_isFaulty l G a1 0 ts td tr tf tw) [1] rfl (by decide) gX6_chosenRange_X8_isFaulty rfl rfl rfl (by decide +kernel) ⟨Nat.le_of_ble_eq_true rfl, Nat.le_of_ble_eq_true rfl⟩ rfl rfl rfl rfl rfl (Nat.le_of_ble_eq_true rfl) dX6_chosenRange_4 (Nat.le_of_ble_eq_true rfl) (Nat.le_of_ble_eq_true rfl)) [1] [0, 2] rfl rfl (by decide) (by decide) rfl rfl (fun r_1 u_2 h_3 => ?_)
  have e_4 : r_1 = f_X8_isFaulty_r tr := h_3
  refine sw_eq (ws' := [(h0, .inr (6, [.int tm, .int ch, .ref a1, .ref a2, .ref a3, .ref a4, .int rg, .int hd, .int df, .ref a5, .ref a8, .long fl, .long ms, .long vo, .ref a9, .ref a10, .ref a13, .ref a14, .ref a15, .ref a16])), (a2, .inr (8, [.int 0, .int us, .int ud, .int ur, .int uf, .int uw])), (a1, .inr (8, [.int 0, .int ts, .int td, .int tr, .int tf, .int tw]))]) (lv' := [(0, .ref h0)]) (st' := [.int r_1]) rfl rfl rfl ?_
  refine sw_istore_n (pc := 7) (lv' := [(1, .int r_1), (0, .ref h0)]) F T.1 dX6_chosenRange_7 rfl (by decide) rfl ?_
  refine sw_aload_n (pc := 8) F dX6_chosenRange_8 rfl 1 rfl ?_
  refine sw_get (pc := 9) (Cn := RX6) (T := TX6) (N := 20) (ci := 6) (v := .ref a2) F in6 0 rfl rfl 3 (by decide) rfl (List.mem_of_getElem? (i := 2) rfl) rfl dX6_chosenRange_9 ?_
  refine sw_calli (pc := 12) (wr := [(h0, .inr (6, [.int tm, .int ch, .ref a1, .ref a2, .ref a3, .ref a4, .int rg, .int hd, .int df, .ref a5, .ref a8, .long fl, .long ms, .long vo, .ref a9, .ref a10, .ref a13, .ref a14, .ref a15, .ref a16])), (a1, .inr (8, [.int 0, .int ts, .int td, .int tr, .int tf, .int tw]))]) (k' := 0) (n' := 0) F (sw_runV (R := ({ frames := 1, cells := 0, slots := 0, locals := 22 } : Room)) (q0 := 0) (na := 0) F T.2.1 T.2.2.1 (k_X8_isFaulty l G a2 0 us ud ur uf uw) [1] rfl (by decide) gX6_chosenRange_X8_isFaulty rfl rfl rfl (by decide +kernel) ⟨Nat.le_of_ble_eq_true rfl, Nat.le_of_ble_eq_true rfl⟩ rfl rfl rfl rfl rfl (Nat.le_of_ble_eq_true rfl) dX6_chosenRange_12 (Nat.le_of_ble_eq_true rfl) (Nat.le_of_ble_eq_true rfl)) [1] [0, 2] rfl rfl (by decide) (by decide) rfl rfl (fun r_5 u_6 h_7 => ?_)
  have e_8 : r_5 = f_X8_isFaulty_r ur := h_7
  refine sw_eq (ws' := [(h0, .inr (6, [.int tm, .int ch, .ref a1, .ref a2, .ref a3, .ref a4, .int rg, .int hd, .int df, .ref a5, .ref a8, .long fl, .long ms, .long vo, .ref a9, .ref a10, .ref a13, .ref a14, .ref a15, .ref a16])), (a1, .inr (8, [.int 0, .int ts, .int td, .int tr, .int tf, .int tw])), (a2, .inr (8, [.int 0, .int us, .int ud, .int ur, .int uf, .int uw]))]) (lv' := [(1, .int r_1), (0, .ref h0)]) (st' := [.int r_5]) rfl rfl rfl ?_
  refine sw_istore_n (pc := 15) (lv' := [(2, .int r_5), (1, .int r_1), (0, .ref h0)]) F T.1 dX6_chosenRange_15 rfl (by decide) rfl ?_
  refine sw_iload_n (pc := 16) F dX6_chosenRange_16 rfl 1 rfl ?_
  refine sw_if_eq (pc := 17) (tgt := 29) F dX6_chosenRange_17 (by decide) (fun c_9 => ?_) (fun c_9 => ?_)
  · skip
    refine sw_iload_n (pc := 29) F dX6_chosenRange_29 rfl 1 rfl ?_
    refine sw_if_eq (pc := 30) (tgt := 35) F dX6_chosenRange_30 (by decide) (fun c_10 => ?_) (fun c_10 => ?_)
    · skip
      refine sw_iload_n (pc := 35) F dX6_chosenRange_35 rfl 0 rfl ?_
      refine sw_if_eq (pc := 36) (tgt := 41) F dX6_chosenRange_36 (by decide) (fun c_11 => ?_) (fun c_11 => ?_)
      · skip
        refine sw_aload_n (pc := 41) F dX6_chosenRange_41 rfl 2 rfl ?_
        refine sw_get (pc := 42) (Cn := RX6) (T := TX6) (N := 20) (ci := 6) (v := .int rg) F in6 0 rfl rfl 6 (by decide) rfl (List.mem_of_getElem? (i := 3) rfl) rfl dX6_chosenRange_42 ?_
        refine sw_if_ne (pc := 45) (tgt := 79) F dX6_chosenRange_45 (by decide) (fun c_12 => ?_) (fun c_12 => ?_)
        · skip
          refine sw_aload_n (pc := 79) F dX6_chosenRange_79 rfl 2 rfl ?_
          refine sw_get (pc := 80) (Cn := RX6) (T := TX6) (N := 20) (ci := 6) (v := .ref a2) F in6 0 rfl rfl 3 (by decide) rfl (List.mem_of_getElem? (i := 2) rfl) rfl dX6_chosenRange_80 ?_
          refine sw_get (pc := 83) (Cn := RX8) (T := TX8) (N := 6) (ci := 8) (v := .int uf) F in8 2 rfl rfl 4 (by decide) rfl (List.mem_of_getElem? (i := 4) rfl) rfl dX6_chosenRange_83 ?_
          refine sw_bipush (pc := 86) (v := 90) F dX6_chosenRange_86 rfl ?_
          refine sw_aload_n (pc := 88) F dX6_chosenRange_88 rfl 2 rfl ?_
          refine sw_get (pc := 89) (Cn := RX6) (T := TX6) (N := 20) (ci := 6) (v := .ref a1) F in6 0 rfl rfl 2 (by decide) rfl (List.mem_of_getElem? (i := 1) rfl) rfl dX6_chosenRange_89 ?_
          refine sw_get (pc := 92) (Cn := RX8) (T := TX8) (N := 6) (ci := 8) (v := .int ts) F in8 1 rfl rfl 1 (by decide) rfl (List.mem_of_getElem? (i := 5) rfl) rfl dX6_chosenRange_92 ?_
          refine sw_imul (pc := 95) F dX6_chosenRange_95 ?_
          refine sw_topi (fun x_13 ex_13 => ?_)
          refine sw_bipush (pc := 96) (v := 100) F dX6_chosenRange_96 rfl ?_
          refine sw_calli (pc := 98) (wr := [(h0, .inr (6, [.int tm, .int ch, .ref a1, .ref a2, .ref a3, .ref a4, .int rg, .int hd, .int df, .ref a5, .ref a8, .long fl, .long ms, .long vo, .ref a9, .ref a10, .ref a13, .ref a14, .ref a15, .ref a16])), (a1, .inr (8, [.int 0, .int ts, .int td, .int tr, .int tf, .int tw])), (a2, .inr (8, [.int 0, .int us, .int ud, .int ur, .int uf, .int uw]))]) (k' := 0) (n' := 0) F (sw_runS (R := ({ frames := 1, cells := 0, slots := 0, locals := 22 } : Room)) (na := 2) F T.2.1 T.2.2.1 (k_J9_floorDiv_7cf53 l G x_13 100 (by decide)) [] rfl (by decide) gX6_chosenRange_J9_floorDiv_7cf53 rfl rfl rfl (by decide +kernel) ⟨Nat.le_of_ble_eq_true rfl, Nat.le_of_ble_eq_true rfl⟩ rfl rfl (Nat.le_of_ble_eq_true rfl) dX6_chosenRange_98 (Nat.le_of_ble_eq_true rfl) (Nat.le_of_ble_eq_true rfl)) [] [0, 1, 2] rfl rfl (by decide) (by decide) rfl rfl (fun r_14 u_15 h_16 => ?_)
          have e_17 : r_14 = f_J9_floorDiv_7cf53_r x_13 100 := h_16
          refine sw_eq (ws' := [(h0, .inr (6, [.int tm, .int ch, .ref a1, .ref a2, .ref a3, .ref a4, .int rg, .int hd, .int df, .ref a5, .ref a8, .long fl, .long ms, .long vo, .ref a9, .ref a10, .ref a13, .ref a14, .ref a15, .ref a16])), (a1, .inr (8, [.int 0, .int ts, .int td, .int tr, .int tf, .int tw])), (a2, .inr (8, [.int 0, .int us, .int ud, .int ur, .int uf, .int uw]))]) (lv' := [(2, .int r_5), (1, .int r_1), (0, .ref h0)]) (st' := [.int r_14, .int uf]) rfl rfl rfl ?_
          refine sw_icmp_ge (pc := 101) (tgt := 108) F dX6_chosenRange_101 (by decide) (fun c_18 => ?_) (fun c_18 => ?_)
          · skip
            refine sw_iconst (pc := 108) (v := 1) F dX6_chosenRange_108 rfl ?_
            subst e_17
            subst ex_13
            subst e_8
            subst e_4
            exact sw_iret (pc := 109) F T rfl rfl () (by unfold f_X6_chosenRange_r; rw [if_pos c_9, if_pos c_10, if_pos c_11, if_neg c_12, if_pos c_18]) rfl dX6_chosenRange_109
          · skip
            refine sw_iconst (pc := 104) (v := 0) F dX6_chosenRange_104 rfl ?_
            refine sw_goto (pc := 105) (tgt := 109) F dX6_chosenRange_105 (by decide) ?_
            subst e_17
            subst ex_13
            subst e_8
            subst e_4
            exact sw_iret (pc := 109) F T rfl rfl () (by unfold f_X6_chosenRange_r; rw [if_pos c_9, if_pos c_10, if_pos c_11, if_neg c_12, if_neg c_18]) rfl dX6_chosenRange_109
        · skip
          refine sw_aload_n (pc := 48) F dX6_chosenRange_48 rfl 2 rfl ?_
          refine sw_get (pc := 49) (Cn := RX6) (T := TX6) (N := 20) (ci := 6) (v := .ref a1) F in6 0 rfl rfl 2 (by decide) rfl (List.mem_of_getElem? (i := 1) rfl) rfl dX6_chosenRange_49 ?_
          refine sw_get (pc := 52) (Cn := RX8) (T := TX8) (N := 6) (ci := 8) (v := .int tf) F in8 1 rfl rfl 4 (by decide) rfl (List.mem_of_getElem? (i := 4) rfl) rfl dX6_chosenRange_52 ?_
          refine sw_bipush (pc := 55) (v := 95) F dX6_chosenRange_55 rfl ?_
          refine sw_aload_n (pc := 57) F dX6_chosenRange_57 rfl 2 rfl ?_
          refine sw_get (pc := 58) (Cn := RX6) (T := TX6) (N := 20) (ci := 6) (v := .ref a1) F in6 0 rfl rfl 2 (by decide) rfl (List.mem_of_getElem? (i := 1) rfl) rfl dX6_chosenRange_58 ?_
          refine sw_get (pc := 61) (Cn := RX8) (T := TX8) (N := 6) (ci := 8) (v := .int ts) F in8 1 rfl rfl 1 (by decide) rfl (List.mem_of_getElem? (i := 5) rfl) rfl dX6_chosenRange_61 ?_
          refine sw_imul (pc := 64) F dX6_chosenRange_64 ?_
          refine sw_topi (fun x_19 ex_19 => ?_)
          refine sw_bipush (pc := 65) (v := 100) F dX6_chosenRange_65 rfl ?_
          refine sw_calli (pc := 67) (wr := [(h0, .inr (6, [.int tm, .int ch, .ref a1, .ref a2, .ref a3, .ref a4, .int rg, .int hd, .int df, .ref a5, .ref a8, .long fl, .long ms, .long vo, .ref a9, .ref a10, .ref a13, .ref a14, .ref a15, .ref a16])), (a1, .inr (8, [.int 0, .int ts, .int td, .int tr, .int tf, .int tw])), (a2, .inr (8, [.int 0, .int us, .int ud, .int ur, .int uf, .int uw]))]) (k' := 0) (n' := 0) F (sw_runS (R := ({ frames := 1, cells := 0, slots := 0, locals := 22 } : Room)) (na := 2) F T.2.1 T.2.2.1 (k_J9_floorDiv_7cf53 l G x_19 100 (by decide)) [] rfl (by decide) gX6_chosenRange_J9_floorDiv_7cf53 rfl rfl rfl (by decide +kernel) ⟨Nat.le_of_ble_eq_true rfl, Nat.le_of_ble_eq_true rfl⟩ rfl rfl (Nat.le_of_ble_eq_true rfl) dX6_chosenRange_67 (Nat.le_of_ble_eq_true rfl) (Nat.le_of_ble_eq_true rfl)) [] [0, 1, 2] rfl rfl (by decide) (by decide) rfl rfl (fun r_20 u_21 h_22 => ?_)
          have e_23 : r_20 = f_J9_floorDiv_7cf53_r x_19 100 := h_22
          refine sw_eq (ws' := [(h0, .inr (6, [.int tm, .int ch, .ref a1, .ref a2, .ref a3, .ref a4, .int rg, .int hd, .int df, .ref a5, .ref a8, .long fl, .long ms, .long vo, .ref a9, .ref a10, .ref a13, .ref a14, .ref a15, .ref a16])), (a1, .inr (8, [.int 0, .int ts, .int td, .int tr, .int tf, .int tw])), (a2, .inr (8, [.int 0, .int us, .int ud, .int ur, .int uf, .int uw]))]) (lv' := [(2, .int r_5), (1, .int r_1), (0, .ref h0)]) (st' := [.int r_20, .int tf]) rfl rfl rfl ?_
          refine sw_icmp_lt (pc := 70) (tgt := 77) F dX6_chosenRange_70 (by decide) (fun c_24 => ?_) (fun c_24 => ?_)
          · skip
            refine sw_iconst (pc := 77) (v := 0) F dX6_chosenRange_77 rfl ?_
            subst e_23
            subst ex_19
            subst e_8
            subst e_4
            exact sw_iret (pc := 78) F T rfl rfl () (by unfold f_X6_chosenRange_r; rw [if_pos c_9, if_pos c_10, if_pos c_11, if_pos c_12, if_pos c_24]) rfl dX6_chosenRange_78
          · skip
            refine sw_iconst (pc := 73) (v := 1) F dX6_chosenRange_73 rfl ?_
            refine sw_goto (pc := 74) (tgt := 78) F dX6_chosenRange_74 (by decide) ?_
            subst e_23
            subst ex_19
            subst e_8
            subst e_4
            exact sw_iret (pc := 78) F T rfl rfl () (by unfold f_X6_chosenRange_r; rw [if_pos c_9, if_pos c_10, if_pos c_11, if_pos c_12, if_neg c_24]) rfl dX6_chosenRange_78
      · skip
        refine sw_iconst (pc := 39) (v := 0) F dX6_chosenRange_39 rfl ?_
        subst e_8
        subst e_4
        exact sw_iret (pc := 40) F T rfl rfl () (by unfold f_X6_chosenRange_r; rw [if_pos c_9, if_pos c_10, if_neg c_11]) rfl dX6_chosenRange_40
    · skip
      refine sw_iconst (pc := 33) (v := 1) F dX6_chosenRange_33 rfl ?_
      subst e_8
      subst e_4
      exact sw_iret (pc := 34) F T rfl rfl () (by unfold f_X6_chosenRange_r; rw [if_pos c_9, if_neg c_10]) rfl dX6_chosenRange_34
  · skip
    refine sw_iload_n (pc := 20) F dX6_chosenRange_20 rfl 0 rfl ?_
    refine sw_if_eq (pc := 21) (tgt := 29) F dX6_chosenRange_21 (by decide) (fun c_25 => ?_) (fun c_25 => ?_)
    · skip
      refine sw_iload_n (pc := 29) F dX6_chosenRange_29 rfl 1 rfl ?_
      refine sw_if_eq (pc := 30) (tgt := 35) F dX6_chosenRange_30 (by decide) (fun c_26 => ?_) (fun c_26 => ?_)
      · skip
        refine sw_iload_n (pc := 35) F dX6_chosenRange_35 rfl 0 rfl ?_
        refine sw_if_eq (pc := 36) (tgt := 41) F dX6_chosenRange_36 (by decide) (fun c_27 => ?_) (fun c_27 => ?_)
        · skip
          refine sw_aload_n (pc := 41) F dX6_chosenRange_41 rfl 2 rfl ?_
          refine sw_get (pc := 42) (Cn := RX6) (T := TX6) (N := 20) (ci := 6) (v := .int rg) F in6 0 rfl rfl 6 (by decide) rfl (List.mem_of_getElem? (i := 3) rfl) rfl dX6_chosenRange_42 ?_
          refine sw_if_ne (pc := 45) (tgt := 79) F dX6_chosenRange_45 (by decide) (fun c_28 => ?_) (fun c_28 => ?_)
          · skip
            refine sw_aload_n (pc := 79) F dX6_chosenRange_79 rfl 2 rfl ?_
            refine sw_get (pc := 80) (Cn := RX6) (T := TX6) (N := 20) (ci := 6) (v := .ref a2) F in6 0 rfl rfl 3 (by decide) rfl (List.mem_of_getElem? (i := 2) rfl) rfl dX6_chosenRange_80 ?_
            refine sw_get (pc := 83) (Cn := RX8) (T := TX8) (N := 6) (ci := 8) (v := .int uf) F in8 2 rfl rfl 4 (by decide) rfl (List.mem_of_getElem? (i := 4) rfl) rfl dX6_chosenRange_83 ?_
            refine sw_bipush (pc := 86) (v := 90) F dX6_chosenRange_86 rfl ?_
            refine sw_aload_n (pc := 88) F dX6_chosenRange_88 rfl 2 rfl ?_
            refine sw_get (pc := 89) (Cn := RX6) (T := TX6) (N := 20) (ci := 6) (v := .ref a1) F in6 0 rfl rfl 2 (by decide) rfl (List.mem_of_getElem? (i := 1) rfl) rfl dX6_chosenRange_89 ?_
            refine sw_get (pc := 92) (Cn := RX8) (T := TX8) (N := 6) (ci := 8) (v := .int ts) F in8 1 rfl rfl 1 (by decide) rfl (List.mem_of_getElem? (i := 5) rfl) rfl dX6_chosenRange_92 ?_
            refine sw_imul (pc := 95) F dX6_chosenRange_95 ?_
            refine sw_topi (fun x_29 ex_29 => ?_)
            refine sw_bipush (pc := 96) (v := 100) F dX6_chosenRange_96 rfl ?_
            refine sw_calli (pc := 98) (wr := [(h0, .inr (6, [.int tm, .int ch, .ref a1, .ref a2, .ref a3, .ref a4, .int rg, .int hd, .int df, .ref a5, .ref a8, .long fl, .long ms, .long vo, .ref a9, .ref a10, .ref a13, .ref a14, .ref a15, .ref a16])), (a1, .inr (8, [.int 0, .int ts, .int td, .int tr, .int tf, .int tw])), (a2, .inr (8, [.int 0, .int us, .int ud, .int ur, .int uf, .int uw]))]) (k' := 0) (n' := 0) F (sw_runS (R := ({ frames := 1, cells := 0, slots := 0, locals := 22 } : Room)) (na := 2) F T.2.1 T.2.2.1 (k_J9_floorDiv_7cf53 l G x_29 100 (by decide)) [] rfl (by decide) gX6_chosenRange_J9_floorDiv_7cf53 rfl rfl rfl (by decide +kernel) ⟨Nat.le_of_ble_eq_true rfl, Nat.le_of_ble_eq_true rfl⟩ rfl rfl (Nat.le_of_ble_eq_true rfl) dX6_chosenRange_98 (Nat.le_of_ble_eq_true rfl) (Nat.le_of_ble_eq_true rfl)) [] [0, 1, 2] rfl rfl (by decide) (by decide) rfl rfl (fun r_30 u_31 h_32 => ?_)
            have e_33 : r_30 = f_J9_floorDiv_7cf53_r x_29 100 := h_32
            refine sw_eq (ws' := [(h0, .inr (6, [.int tm, .int ch, .ref a1, .ref a2, .ref a3, .ref a4, .int rg, .int hd, .int df, .ref a5, .ref a8, .long fl, .long ms, .long vo, .ref a9, .ref a10, .ref a13, .ref a14, .ref a15, .ref a16])), (a1, .inr (8, [.int 0, .int ts, .int td, .int tr, .int tf, .int tw])), (a2, .inr (8, [.int 0, .int us, .int ud, .int ur, .int uf, .int uw]))]) (lv' := [(2, .int r_5), (1, .int r_1), (0, .ref h0)]) (st' := [.int r_30, .int uf]) rfl rfl rfl ?_
            refine sw_icmp_ge (pc := 101) (tgt := 108) F dX6_chosenRange_101 (by decide) (fun c_34 => ?_) (fun c_34 => ?_)
            · skip
              refine sw_iconst (pc := 108) (v := 1) F dX6_chosenRange_108 rfl ?_
              subst e_33
              subst ex_29
              subst e_8
              subst e_4
              exact sw_iret (pc := 109) F T rfl rfl () (by unfold f_X6_chosenRange_r; rw [if_neg c_9, if_pos c_25, if_pos c_26, if_pos c_27, if_neg c_28, if_pos c_34]) rfl dX6_chosenRange_109
            · skip
              refine sw_iconst (pc := 104) (v := 0) F dX6_chosenRange_104 rfl ?_
              refine sw_goto (pc := 105) (tgt := 109) F dX6_chosenRange_105 (by decide) ?_
              subst e_33
              subst ex_29
              subst e_8
              subst e_4
              exact sw_iret (pc := 109) F T rfl rfl () (by unfold f_X6_chosenRange_r; rw [if_neg c_9, if_pos c_25, if_pos c_26, if_pos c_27, if_neg c_28, if_neg c_34]) rfl dX6_chosenRange_109
          · skip
            refine sw_aload_n (pc := 48) F dX6_chosenRange_48 rfl 2 rfl ?_
            refine sw_get (pc := 49) (Cn := RX6) (T := TX6) (N := 20) (ci := 6) (v := .ref a1) F in6 0 rfl rfl 2 (by decide) rfl (List.mem_of_getElem? (i := 1) rfl) rfl dX6_chosenRange_49 ?_
            refine sw_get (pc := 52) (Cn := RX8) (T := TX8) (N := 6) (ci := 8) (v := .int tf) F in8 1 rfl rfl 4 (by decide) rfl (List.mem_of_getElem? (i := 4) rfl) rfl dX6_chosenRange_52 ?_
            refine sw_bipush (pc := 55) (v := 95) F dX6_chosenRange_55 rfl ?_
            refine sw_aload_n (pc := 57) F dX6_chosenRange_57 rfl 2 rfl ?_
            refine sw_get (pc := 58) (Cn := RX6) (T := TX6) (N := 20) (ci := 6) (v := .ref a1) F in6 0 rfl rfl 2 (by decide) rfl (List.mem_of_getElem? (i := 1) rfl) rfl dX6_chosenRange_58 ?_
            refine sw_get (pc := 61) (Cn := RX8) (T := TX8) (N := 6) (ci := 8) (v := .int ts) F in8 1 rfl rfl 1 (by decide) rfl (List.mem_of_getElem? (i := 5) rfl) rfl dX6_chosenRange_61 ?_
            refine sw_imul (pc := 64) F dX6_chosenRange_64 ?_
            refine sw_topi (fun x_35 ex_35 => ?_)
            refine sw_bipush (pc := 65) (v := 100) F dX6_chosenRange_65 rfl ?_
            refine sw_calli (pc := 67) (wr := [(h0, .inr (6, [.int tm, .int ch, .ref a1, .ref a2, .ref a3, .ref a4, .int rg, .int hd, .int df, .ref a5, .ref a8, .long fl, .long ms, .long vo, .ref a9, .ref a10, .ref a13, .ref a14, .ref a15, .ref a16])), (a1, .inr (8, [.int 0, .int ts, .int td, .int tr, .int tf, .int tw])), (a2, .inr (8, [.int 0, .int us, .int ud, .int ur, .int uf, .int uw]))]) (k' := 0) (n' := 0) F (sw_runS (R := ({ frames := 1, cells := 0, slots := 0, locals := 22 } : Room)) (na := 2) F T.2.1 T.2.2.1 (k_J9_floorDiv_7cf53 l G x_35 100 (by decide)) [] rfl (by decide) gX6_chosenRange_J9_floorDiv_7cf53 rfl rfl rfl (by decide +kernel) ⟨Nat.le_of_ble_eq_true rfl, Nat.le_of_ble_eq_true rfl⟩ rfl rfl (Nat.le_of_ble_eq_true rfl) dX6_chosenRange_67 (Nat.le_of_ble_eq_true rfl) (Nat.le_of_ble_eq_true rfl)) [] [0, 1, 2] rfl rfl (by decide) (by decide) rfl rfl (fun r_36 u_37 h_38 => ?_)
            have e_39 : r_36 = f_J9_floorDiv_7cf53_r x_35 100 := h_38
            refine sw_eq (ws' := [(h0, .inr (6, [.int tm, .int ch, .ref a1, .ref a2, .ref a3, .ref a4, .int rg, .int hd, .int df, .ref a5, .ref a8, .long fl, .long ms, .long vo, .ref a9, .ref a10, .ref a13, .ref a14, .ref a15, .ref a16])), (a1, .inr (8, [.int 0, .int ts, .int td, .int tr, .int tf, .int tw])), (a2, .inr (8, [.int 0, .int us, .int ud, .int ur, .int uf, .int uw]))]) (lv' := [(2, .int r_5), (1, .int r_1), (0, .ref h0)]) (st' := [.int r_36, .int tf]) rfl rfl rfl ?_
            refine sw_icmp_lt (pc := 70) (tgt := 77) F dX6_chosenRange_70 (by decide) (fun c_40 => ?_) (fun c_40 => ?_)
            · skip
              refine sw_iconst (pc := 77) (v := 0) F dX6_chosenRange_77 rfl ?_
              subst e_39
              subst ex_35
              subst e_8
              subst e_4
              exact sw_iret (pc := 78) F T rfl rfl () (by unfold f_X6_chosenRange_r; rw [if_neg c_9, if_pos c_25, if_pos c_26, if_pos c_27, if_pos c_28, if_pos c_40]) rfl dX6_chosenRange_78
            · skip
              refine sw_iconst (pc := 73) (v := 1) F dX6_chosenRange_73 rfl ?_
              refine sw_goto (pc := 74) (tgt := 78) F dX6_chosenRange_74 (by decide) ?_
              subst e_39
              subst ex_35
              subst e_8
              subst e_4
              exact sw_iret (pc := 78) F T rfl rfl () (by unfold f_X6_chosenRange_r; rw [if_neg c_9, if_pos c_25, if_pos c_26, if_pos c_27, if_pos c_28, if_neg c_40]) rfl dX6_chosenRange_78
        · skip
          refine sw_iconst (pc := 39) (v := 0) F dX6_chosenRange_39 rfl ?_
          subst e_8
          subst e_4
          exact sw_iret (pc := 40) F T rfl rfl () (by unfold f_X6_chosenRange_r; rw [if_neg c_9, if_pos c_25, if_pos c_26, if_neg c_27]) rfl dX6_chosenRange_40
      · skip
        refine sw_iconst (pc := 33) (v := 1) F dX6_chosenRange_33 rfl ?_
        subst e_8
        subst e_4
        exact sw_iret (pc := 34) F T rfl rfl () (by unfold f_X6_chosenRange_r; rw [if_neg c_9, if_pos c_25, if_neg c_26]) rfl dX6_chosenRange_34
    · skip
      refine sw_aload_n (pc := 24) F dX6_chosenRange_24 rfl 2 rfl ?_
      refine sw_get (pc := 25) (Cn := RX6) (T := TX6) (N := 20) (ci := 6) (v := .int rg) F in6 0 rfl rfl 6 (by decide) rfl (List.mem_of_getElem? (i := 3) rfl) rfl dX6_chosenRange_25 ?_
      subst e_8
      subst e_4
      exact sw_iret (pc := 28) F T rfl rfl () (by unfold f_X6_chosenRange_r; rw [if_neg c_9, if_neg c_25]) rfl dX6_chosenRange_28
def f_X6_chooseRange_o0_6 (rg : Int32) (ts : Int32) (tr : Int32) (tf : Int32) (ur : Int32) (uf : Int32) : Int32 := if (f_X6_chosenRange_r rg ts tr tf ur uf) = rg then (rg) else ((f_X6_chosenRange_r rg ts tr tf ur uf))
def f_X6_chooseRange_o3_3 (rg : Int32) (ts : Int32) (tr : Int32) (tf : Int32) (ur : Int32) (uf : Int32) (eo : Int32) (en : Int32) : Int32 := if (f_X6_chosenRange_r rg ts tr tf ur uf) = rg then (eo) else ((f_X6_log_o1_3 eo en))
def f_X6_chooseRange_o3_4 (rg : Int32) (ts : Int32) (tr : Int32) (tf : Int32) (ur : Int32) (uf : Int32) (en : Int32) : Int32 := if (f_X6_chosenRange_r rg ts tr tf ur uf) = rg then (en) else ((f_X6_log_o1_4 en))
def f_X6_chooseRange_o4 (tm : Int32) (rg : Int32) (ts : Int32) (tr : Int32) (tf : Int32) (ur : Int32) (uf : Int32) (eo : Int32) (en : Int32) (ef : Nat → Int64) : Nat → Int64 := if (f_X6_chosenRange_r rg ts tr tf ur uf) = rg then (ef) else ((f_X6_log_o2 tm eo en ef 2 (f_X6_chosenRange_r rg ts tr tf ur uf).toInt64))
set_option maxHeartbeats 4000000 in
set_option maxRecDepth 100000 in
theorem k_X6_chooseRange (l : Launch) (G : sw_E) (h0 : Nat) (a1 : Nat) (a2 : Nat) (a3 : Nat) (a4 : Nat) (a5 : Nat) (a8 : Nat) (a9 : Nat) (a10 : Nat) (a13 : Nat) (a14 : Nat) (a15 : Nat) (a16 : Nat) (a19 : Nat) (tm : Int32) (ch : Int32) (rg : Int32) (hd : Int32) (df : Int32) (fl : Int64) (ms : Int64) (vo : Int64) (ts : Int32) (td : Int32) (tr : Int32) (tf : Int32) (tw : Int32) (us : Int32) (ud : Int32) (ur : Int32) (uf : Int32) (uw : Int32) (eo : Int32) (en : Int32) (ef : Nat → Int64)  : sw_M l G yX6_chooseRange wsX6_chooseRange ({ frames := 3, cells := 0, slots := 0, locals := 70 } : Room) [.ref h0] [(h0, .inr (6, [.int tm, .int ch, .ref a1, .ref a2, .ref a3, .ref a4, .int rg, .int hd, .int df, .ref a5, .ref a8, .long fl, .long ms, .long vo, .ref a9, .ref a10, .ref a13, .ref a14, .ref a15, .ref a16])), (a1, .inr (8, [.int 0, .int ts, .int td, .int tr, .int tf, .int tw])), (a2, .inr (8, [.int 0, .int us, .int ud, .int ur, .int uf, .int uw])), (a16, .inr (4, [.int 30, .int 3, .ref a19, .int eo, .int en])), (a19, .inl (G.2.1.2, 90, .inr (.inl ef)))] (sw_QV G (S := Int32 × Int32 × Int32 × (Nat → Int64)) (fun (u : Int32 × Int32 × Int32 × (Nat → Int64)) => u.1 = f_X6_chooseRange_o0_6 rg ts tr tf ur uf ∧ u.2.1 = f_X6_chooseRange_o3_3 rg ts tr tf ur uf eo en ∧ u.2.2.1 = f_X6_chooseRange_o3_4 rg ts tr tf ur uf en ∧ u.2.2.2 = f_X6_chooseRange_o4 tm rg ts tr tf ur uf eo en ef) (fun u => [(h0, .inr (6, [.int tm, .int ch, .ref a1, .ref a2, .ref a3, .ref a4, .int u.1, .int hd, .int df, .ref a5, .ref a8, .long fl, .long ms, .long vo, .ref a9, .ref a10, .ref a13, .ref a14, .ref a15, .ref a16])), (a1, .inr (8, [.int 0, .int ts, .int td, .int tr, .int tf, .int tw])), (a2, .inr (8, [.int 0, .int us, .int ud, .int ur, .int uf, .int uw])), (a16, .inr (4, [.int 30, .int 3, .ref a19, .int u.2.1, .int u.2.2.1])), (a19, .inl (G.2.1.2, 90, .inr (.inl u.2.2.2)))])) 0 0 := by
  refine sw_start (cc := cX6_chooseRange) (maxL := 2) (ret := none) (lv := [(0, .ref h0)]) (own := RX6) (nm := "chooseRange") (by decide +kernel) rfl rfl rfl rfl (Nat.le_of_ble_eq_true rfl) (fun C F T => ?_)
  have in6 : ∀ w ∈ u_ws RX6 TX6 20, w ∈ wsX6_chooseRange := fun w h => List.mem_cons_of_mem _ (List.mem_append_left _ (List.mem_append_left _ (List.mem_append_right _ (h))))
  refine sw_aload_n (pc := 0) F dX6_chooseRange_0 rfl 0 rfl ?_
  refine sw_calli (pc := 1) (wr := [(a16, .inr (4, [.int 30, .int 3, .ref a19, .int eo, .int en])), (a19, .inl (G.2.1.2, 90, .inr (.inl ef)))]) (k' := 0) (n' := 0) F (sw_runV (R := ({ frames := 3, cells := 0, slots := 0, locals := 70 } : Room)) (q0 := 0) (na := 0) F T.2.1 T.2.2.1 (k_X6_chosenRange l G h0 a1 a2 a3 a4 a5 a8 a9 a10 a13 a14 a15 a16 tm ch rg hd df fl ms vo ts td tr tf tw us ud ur uf uw) [0, 1, 2] rfl (by decide) gX6_chooseRange_X6_chosenRange rfl rfl rfl (by decide +kernel) ⟨Nat.le_of_ble_eq_true rfl, Nat.le_of_ble_eq_true rfl⟩ rfl rfl rfl rfl rfl (Nat.le_of_ble_eq_true rfl) dX6_chooseRange_1 (Nat.le_of_ble_eq_true rfl) (Nat.le_of_ble_eq_true rfl)) [0, 1, 2] [3, 4] rfl rfl (by decide) (by decide) rfl rfl (fun r_1 u_2 h_3 => ?_)
  have e_4 : r_1 = f_X6_chosenRange_r rg ts tr tf ur uf := h_3
  refine sw_eq (ws' := [(a16, .inr (4, [.int 30, .int 3, .ref a19, .int eo, .int en])), (a19, .inl (G.2.1.2, 90, .inr (.inl ef))), (h0, .inr (6, [.int tm, .int ch, .ref a1, .ref a2, .ref a3, .ref a4, .int rg, .int hd, .int df, .ref a5, .ref a8, .long fl, .long ms, .long vo, .ref a9, .ref a10, .ref a13, .ref a14, .ref a15, .ref a16])), (a1, .inr (8, [.int 0, .int ts, .int td, .int tr, .int tf, .int tw])), (a2, .inr (8, [.int 0, .int us, .int ud, .int ur, .int uf, .int uw]))]) (lv' := [(0, .ref h0)]) (st' := [.int r_1]) rfl rfl rfl ?_
  refine sw_istore_n (pc := 4) (lv' := [(1, .int r_1), (0, .ref h0)]) F T.1 dX6_chooseRange_4 rfl (by decide) rfl ?_
  refine sw_iload_n (pc := 5) F dX6_chooseRange_5 rfl 0 rfl ?_
  refine sw_aload_n (pc := 6) F dX6_chooseRange_6 rfl 1 rfl ?_
  refine sw_get (pc := 7) (Cn := RX6) (T := TX6) (N := 20) (ci := 6) (v := .int rg) F in6 2 rfl rfl 6 (by decide) rfl (List.mem_of_getElem? (i := 1) rfl) rfl dX6_chooseRange_7 ?_
  refine sw_icmp_eq (pc := 10) (tgt := 25) F dX6_chooseRange_10 (by decide) (fun c_5 => ?_) (fun c_5 => ?_)
  · skip
    subst e_4
    refine sw_perm (ws' := [(h0, .inr (6, [.int tm, .int ch, .ref a1, .ref a2, .ref a3, .ref a4, .int rg, .int hd, .int df, .ref a5, .ref a8, .long fl, .long ms, .long vo, .ref a9, .ref a10, .ref a13, .ref a14, .ref a15, .ref a16])), (a1, .inr (8, [.int 0, .int ts, .int td, .int tr, .int tf, .int tw])), (a2, .inr (8, [.int 0, .int us, .int ud, .int ur, .int uf, .int uw])), (a16, .inr (4, [.int 30, .int 3, .ref a19, .int eo, .int en])), (a19, .inl (G.2.1.2, 90, .inr (.inl ef)))]) [2, 3, 4, 0, 1] (by decide) rfl ?_
    exact sw_vret (pc := 25) F T (rg, eo, en, ef) ⟨(by unfold f_X6_chooseRange_o0_6; rw [if_pos c_5]), (by unfold f_X6_chooseRange_o3_3; rw [if_pos c_5]), (by unfold f_X6_chooseRange_o3_4; rw [if_pos c_5]), (by unfold f_X6_chooseRange_o4; rw [if_pos c_5])⟩ rfl dX6_chooseRange_25
  · skip
    refine sw_aload_n (pc := 13) F dX6_chooseRange_13 rfl 1 rfl ?_
    refine sw_iload_n (pc := 14) F dX6_chooseRange_14 rfl 0 rfl ?_
    refine sw_put (pc := 15) (Cn := RX6) (T := TX6) (N := 20) (ci := 6) (ty0 := tyX6) (ws' := [(a16, .inr (4, [.int 30, .int 3, .ref a19, .int eo, .int en])), (a19, .inl (G.2.1.2, 90, .inr (.inl ef))), (h0, .inr (6, [.int tm, .int ch, .ref a1, .ref a2, .ref a3, .ref a4, .int r_1, .int hd, .int df, .ref a5, .ref a8, .long fl, .long ms, .long vo, .ref a9, .ref a10, .ref a13, .ref a14, .ref a15, .ref a16])), (a1, .inr (8, [.int 0, .int ts, .int td, .int tr, .int tf, .int tw])), (a2, .inr (8, [.int 0, .int us, .int ud, .int ur, .int uf, .int uw]))]) F in6 tyX6_ok nmX6 2 rfl rfl 6 (by decide) rfl (List.mem_of_getElem? (i := 1) rfl) rfl rfl rfl (Nat.le_of_ble_eq_true rfl) dX6_chooseRange_15 rfl ?_
    refine sw_aload_n (pc := 18) F dX6_chooseRange_18 rfl 1 rfl ?_
    refine sw_iconst (pc := 19) (v := 2) F dX6_chooseRange_19 rfl ?_
    refine sw_iload_n (pc := 20) F dX6_chooseRange_20 rfl 0 rfl ?_
    refine sw_i2l (pc := 21) F dX6_chooseRange_21 rfl ?_
    refine sw_callv (pc := 22) (wr := [(a1, .inr (8, [.int 0, .int ts, .int td, .int tr, .int tf, .int tw])), (a2, .inr (8, [.int 0, .int us, .int ud, .int ur, .int uf, .int uw]))]) (k' := 0) (n' := 0) F (sw_runV (R := ({ frames := 3, cells := 0, slots := 0, locals := 70 } : Room)) (q0 := 0) (na := 2) F T.2.1 T.2.2.1 (k_X6_log l G h0 a1 a2 a3 a4 a5 a8 a9 a10 a13 a14 a15 a16 a19 tm ch r_1 hd df fl ms vo eo en ef 2 r_1.toInt64) [2, 0, 1] rfl (by decide) gX6_chooseRange_X6_log rfl rfl rfl (by decide +kernel) ⟨Nat.le_of_ble_eq_true rfl, Nat.le_of_ble_eq_true rfl⟩ rfl rfl rfl rfl rfl (Nat.le_of_ble_eq_true rfl) dX6_chooseRange_22 (Nat.le_of_ble_eq_true rfl) (Nat.le_of_ble_eq_true rfl)) [2, 0, 1] [3, 4] rfl rfl (by decide) (by decide) rfl rfl (fun u_7 h_8 => ?_)
    obtain ⟨o_9, o_10, o_11⟩ := u_7
    obtain ⟨e_12, e_13, e_14⟩ : o_9 = f_X6_log_o1_3 eo en ∧ o_10 = f_X6_log_o1_4 en ∧ o_11 = f_X6_log_o2 tm eo en ef 2 r_1.toInt64 := h_8
    refine sw_eq (ws' := [(a1, .inr (8, [.int 0, .int ts, .int td, .int tr, .int tf, .int tw])), (a2, .inr (8, [.int 0, .int us, .int ud, .int ur, .int uf, .int uw])), (h0, .inr (6, [.int tm, .int ch, .ref a1, .ref a2, .ref a3, .ref a4, .int r_1, .int hd, .int df, .ref a5, .ref a8, .long fl, .long ms, .long vo, .ref a9, .ref a10, .ref a13, .ref a14, .ref a15, .ref a16])), (a16, .inr (4, [.int 30, .int 3, .ref a19, .int o_9, .int o_10])), (a19, .inl (G.2.1.2, 90, .inr (.inl o_11)))]) (lv' := [(1, .int r_1), (0, .ref h0)]) (st' := []) rfl rfl rfl ?_
    subst e_14
    subst e_13
    subst e_12
    subst e_4
    refine sw_perm (ws' := [(h0, .inr (6, [.int tm, .int ch, .ref a1, .ref a2, .ref a3, .ref a4, .int ((f_X6_chosenRange_r rg ts tr tf ur uf)), .int hd, .int df, .ref a5, .ref a8, .long fl, .long ms, .long vo, .ref a9, .ref a10, .ref a13, .ref a14, .ref a15, .ref a16])), (a1, .inr (8, [.int 0, .int ts, .int td, .int tr, .int tf, .int tw])), (a2, .inr (8, [.int 0, .int us, .int ud, .int ur, .int uf, .int uw])), (a16, .inr (4, [.int 30, .int 3, .ref a19, .int ((f_X6_log_o1_3 eo en)), .int ((f_X6_log_o1_4 en))])), (a19, .inl (G.2.1.2, 90, .inr (.inl ((f_X6_log_o2 tm eo en ef 2 (f_X6_chosenRange_r rg ts tr tf ur uf).toInt64)))))]) [2, 0, 1, 3, 4] (by decide) rfl ?_
    exact sw_vret (pc := 25) F T ((f_X6_chosenRange_r rg ts tr tf ur uf), (f_X6_log_o1_3 eo en), (f_X6_log_o1_4 en), (f_X6_log_o2 tm eo en ef 2 (f_X6_chosenRange_r rg ts tr tf ur uf).toInt64)) ⟨(by unfold f_X6_chooseRange_o0_6; rw [if_neg c_5]), (by unfold f_X6_chooseRange_o3_3; rw [if_neg c_5]), (by unfold f_X6_chooseRange_o3_4; rw [if_neg c_5]), (by unfold f_X6_chooseRange_o4; rw [if_neg c_5])⟩ rfl dX6_chooseRange_25
def f_X6_hold_o0_7 (hd : Int32) : Int32 := (hd + 1)
def f_X6_hold_o0_8 (hd : Int32) (df : Int32) : Int32 := if (hd + 1) = 11 then (if (hd + 1) < 11 then (df) else (0)) else (if (hd + 1) < 11 then (df) else (0))
def f_X6_hold_o1_3 (hd : Int32) (eo : Int32) (en : Int32) : Int32 := if (hd + 1) = 11 then ((f_X6_log_o1_3 eo en)) else (eo)
def f_X6_hold_o1_4 (hd : Int32) (en : Int32) : Int32 := if (hd + 1) = 11 then ((f_X6_log_o1_4 en)) else (en)
def f_X6_hold_o2 (tm : Int32) (hd : Int32) (eo : Int32) (en : Int32) (ef : Nat → Int64) : Nat → Int64 := if (hd + 1) = 11 then ((f_X6_log_o2 tm eo en ef 3 0)) else (ef)
set_option maxHeartbeats 4000000 in
set_option maxRecDepth 100000 in
theorem k_X6_hold (l : Launch) (G : sw_E) (h0 : Nat) (a1 : Nat) (a2 : Nat) (a3 : Nat) (a4 : Nat) (a5 : Nat) (a8 : Nat) (a9 : Nat) (a10 : Nat) (a13 : Nat) (a14 : Nat) (a15 : Nat) (a16 : Nat) (a19 : Nat) (tm : Int32) (ch : Int32) (rg : Int32) (hd : Int32) (df : Int32) (fl : Int64) (ms : Int64) (vo : Int64) (eo : Int32) (en : Int32) (ef : Nat → Int64)  : sw_M l G yX6_hold wsX6_hold ({ frames := 3, cells := 0, slots := 0, locals := 70 } : Room) [.ref h0] [(h0, .inr (6, [.int tm, .int ch, .ref a1, .ref a2, .ref a3, .ref a4, .int rg, .int hd, .int df, .ref a5, .ref a8, .long fl, .long ms, .long vo, .ref a9, .ref a10, .ref a13, .ref a14, .ref a15, .ref a16])), (a16, .inr (4, [.int 30, .int 3, .ref a19, .int eo, .int en])), (a19, .inl (G.2.1.2, 90, .inr (.inl ef)))] (sw_QV G (S := Int32 × Int32 × Int32 × Int32 × (Nat → Int64)) (fun (u : Int32 × Int32 × Int32 × Int32 × (Nat → Int64)) => u.1 = f_X6_hold_o0_7 hd ∧ u.2.1 = f_X6_hold_o0_8 hd df ∧ u.2.2.1 = f_X6_hold_o1_3 hd eo en ∧ u.2.2.2.1 = f_X6_hold_o1_4 hd en ∧ u.2.2.2.2 = f_X6_hold_o2 tm hd eo en ef) (fun u => [(h0, .inr (6, [.int tm, .int ch, .ref a1, .ref a2, .ref a3, .ref a4, .int rg, .int u.1, .int u.2.1, .ref a5, .ref a8, .long fl, .long ms, .long vo, .ref a9, .ref a10, .ref a13, .ref a14, .ref a15, .ref a16])), (a16, .inr (4, [.int 30, .int 3, .ref a19, .int u.2.2.1, .int u.2.2.2.1])), (a19, .inl (G.2.1.2, 90, .inr (.inl u.2.2.2.2)))])) 0 0 := by
  refine sw_start (cc := cX6_hold) (maxL := 1) (ret := none) (lv := [(0, .ref h0)]) (own := RX6) (nm := "hold") (by decide +kernel) rfl rfl rfl rfl (Nat.le_of_ble_eq_true rfl) (fun C F T => ?_)
  have in6 : ∀ w ∈ u_ws RX6 TX6 20, w ∈ wsX6_hold := fun w h => List.mem_cons_of_mem _ (List.mem_append_left _ (List.mem_append_right _ (h)))
  refine sw_aload_n (pc := 0) F dX6_hold_0 rfl 0 rfl ?_
  refine sw_dup (pc := 1) F dX6_hold_1 rfl ?_
  refine sw_get (pc := 2) (Cn := RX6) (T := TX6) (N := 20) (ci := 6) (v := .int hd) F in6 0 rfl rfl 7 (by decide) rfl (List.mem_of_getElem? (i := 1) rfl) rfl dX6_hold_2 ?_
  refine sw_iconst (pc := 5) (v := 1) F dX6_hold_5 rfl ?_
  refine sw_iadd (pc := 6) F dX6_hold_6 ?_
  refine sw_topi (fun x_1 ex_1 => ?_)
  refine sw_put (pc := 7) (Cn := RX6) (T := TX6) (N := 20) (ci := 6) (ty0 := tyX6) (ws' := [(h0, .inr (6, [.int tm, .int ch, .ref a1, .ref a2, .ref a3, .ref a4, .int rg, .int x_1, .int df, .ref a5, .ref a8, .long fl, .long ms, .long vo, .ref a9, .ref a10, .ref a13, .ref a14, .ref a15, .ref a16])), (a16, .inr (4, [.int 30, .int 3, .ref a19, .int eo, .int en])), (a19, .inl (G.2.1.2, 90, .inr (.inl ef)))]) F in6 tyX6_ok nmX6 0 rfl rfl 7 (by decide) rfl (List.mem_of_getElem? (i := 1) rfl) rfl rfl rfl (Nat.le_of_ble_eq_true rfl) dX6_hold_7 rfl ?_
  refine sw_aload_n (pc := 10) F dX6_hold_10 rfl 0 rfl ?_
  refine sw_get (pc := 11) (Cn := RX6) (T := TX6) (N := 20) (ci := 6) (v := .int x_1) F in6 0 rfl rfl 7 (by decide) rfl (List.mem_of_getElem? (i := 1) rfl) rfl dX6_hold_11 ?_
  refine sw_bipush (pc := 14) (v := 11) F dX6_hold_14 rfl ?_
  refine sw_icmp_ne (pc := 16) (tgt := 25) F dX6_hold_16 (by decide) (fun c_2 => ?_) (fun c_2 => ?_)
  · skip
    refine sw_aload_n (pc := 25) F dX6_hold_25 rfl 0 rfl ?_
    refine sw_get (pc := 26) (Cn := RX6) (T := TX6) (N := 20) (ci := 6) (v := .int x_1) F in6 0 rfl rfl 7 (by decide) rfl (List.mem_of_getElem? (i := 1) rfl) rfl dX6_hold_26 ?_
    refine sw_bipush (pc := 29) (v := 11) F dX6_hold_29 rfl ?_
    refine sw_icmp_lt (pc := 31) (tgt := 39) F dX6_hold_31 (by decide) (fun c_3 => ?_) (fun c_3 => ?_)
    · skip
      subst ex_1
      exact sw_vret (pc := 39) F T ((hd + 1), df, eo, en, ef) ⟨rfl, (by unfold f_X6_hold_o0_8; rw [if_neg c_2, if_pos c_3]), (by unfold f_X6_hold_o1_3; rw [if_neg c_2]), (by unfold f_X6_hold_o1_4; rw [if_neg c_2]), (by unfold f_X6_hold_o2; rw [if_neg c_2])⟩ rfl dX6_hold_39
    · skip
      refine sw_aload_n (pc := 34) F dX6_hold_34 rfl 0 rfl ?_
      refine sw_iconst (pc := 35) (v := 0) F dX6_hold_35 rfl ?_
      refine sw_put (pc := 36) (Cn := RX6) (T := TX6) (N := 20) (ci := 6) (ty0 := tyX6) (ws' := [(h0, .inr (6, [.int tm, .int ch, .ref a1, .ref a2, .ref a3, .ref a4, .int rg, .int x_1, .int 0, .ref a5, .ref a8, .long fl, .long ms, .long vo, .ref a9, .ref a10, .ref a13, .ref a14, .ref a15, .ref a16])), (a16, .inr (4, [.int 30, .int 3, .ref a19, .int eo, .int en])), (a19, .inl (G.2.1.2, 90, .inr (.inl ef)))]) F in6 tyX6_ok nmX6 0 rfl rfl 8 (by decide) rfl (List.mem_of_getElem? (i := 2) rfl) rfl rfl rfl (Nat.le_of_ble_eq_true rfl) dX6_hold_36 rfl ?_
      subst ex_1
      exact sw_vret (pc := 39) F T ((hd + 1), 0, eo, en, ef) ⟨rfl, (by unfold f_X6_hold_o0_8; rw [if_neg c_2, if_neg c_3]), (by unfold f_X6_hold_o1_3; rw [if_neg c_2]), (by unfold f_X6_hold_o1_4; rw [if_neg c_2]), (by unfold f_X6_hold_o2; rw [if_neg c_2])⟩ rfl dX6_hold_39
  · skip
    refine sw_aload_n (pc := 19) F dX6_hold_19 rfl 0 rfl ?_
    refine sw_iconst (pc := 20) (v := 3) F dX6_hold_20 rfl ?_
    refine sw_lconst (pc := 21) (v := 0) F dX6_hold_21 rfl ?_
    refine sw_callv (pc := 22) (wr := []) (k' := 0) (n' := 0) F (sw_runV (R := ({ frames := 3, cells := 0, slots := 0, locals := 70 } : Room)) (q0 := 0) (na := 2) F T.2.1 T.2.2.1 (k_X6_log l G h0 a1 a2 a3 a4 a5 a8 a9 a10 a13 a14 a15 a16 a19 tm ch rg x_1 df fl ms vo eo en ef 3 0) [0, 1, 2] rfl (by decide) gX6_hold_X6_log rfl rfl rfl (by decide +kernel) ⟨Nat.le_of_ble_eq_true rfl, Nat.le_of_ble_eq_true rfl⟩ rfl rfl rfl rfl rfl (Nat.le_of_ble_eq_true rfl) dX6_hold_22 (Nat.le_of_ble_eq_true rfl) (Nat.le_of_ble_eq_true rfl)) [0, 1, 2] [] rfl rfl (by decide) (by decide) rfl rfl (fun u_5 h_6 => ?_)
    obtain ⟨o_7, o_8, o_9⟩ := u_5
    obtain ⟨e_10, e_11, e_12⟩ : o_7 = f_X6_log_o1_3 eo en ∧ o_8 = f_X6_log_o1_4 en ∧ o_9 = f_X6_log_o2 tm eo en ef 3 0 := h_6
    refine sw_eq (ws' := [(h0, .inr (6, [.int tm, .int ch, .ref a1, .ref a2, .ref a3, .ref a4, .int rg, .int x_1, .int df, .ref a5, .ref a8, .long fl, .long ms, .long vo, .ref a9, .ref a10, .ref a13, .ref a14, .ref a15, .ref a16])), (a16, .inr (4, [.int 30, .int 3, .ref a19, .int o_7, .int o_8])), (a19, .inl (G.2.1.2, 90, .inr (.inl o_9)))]) (lv' := [(0, .ref h0)]) (st' := []) rfl rfl rfl ?_
    refine sw_aload_n (pc := 25) F dX6_hold_25 rfl 0 rfl ?_
    refine sw_get (pc := 26) (Cn := RX6) (T := TX6) (N := 20) (ci := 6) (v := .int x_1) F in6 0 rfl rfl 7 (by decide) rfl (List.mem_of_getElem? (i := 1) rfl) rfl dX6_hold_26 ?_
    refine sw_bipush (pc := 29) (v := 11) F dX6_hold_29 rfl ?_
    refine sw_icmp_lt (pc := 31) (tgt := 39) F dX6_hold_31 (by decide) (fun c_13 => ?_) (fun c_13 => ?_)
    · skip
      subst e_12
      subst e_11
      subst e_10
      subst ex_1
      exact sw_vret (pc := 39) F T ((hd + 1), df, (f_X6_log_o1_3 eo en), (f_X6_log_o1_4 en), (f_X6_log_o2 tm eo en ef 3 0)) ⟨rfl, (by unfold f_X6_hold_o0_8; rw [if_pos c_2, if_pos c_13]), (by unfold f_X6_hold_o1_3; rw [if_pos c_2]), (by unfold f_X6_hold_o1_4; rw [if_pos c_2]), (by unfold f_X6_hold_o2; rw [if_pos c_2])⟩ rfl dX6_hold_39
    · skip
      refine sw_aload_n (pc := 34) F dX6_hold_34 rfl 0 rfl ?_
      refine sw_iconst (pc := 35) (v := 0) F dX6_hold_35 rfl ?_
      refine sw_put (pc := 36) (Cn := RX6) (T := TX6) (N := 20) (ci := 6) (ty0 := tyX6) (ws' := [(h0, .inr (6, [.int tm, .int ch, .ref a1, .ref a2, .ref a3, .ref a4, .int rg, .int x_1, .int 0, .ref a5, .ref a8, .long fl, .long ms, .long vo, .ref a9, .ref a10, .ref a13, .ref a14, .ref a15, .ref a16])), (a16, .inr (4, [.int 30, .int 3, .ref a19, .int o_7, .int o_8])), (a19, .inl (G.2.1.2, 90, .inr (.inl o_9)))]) F in6 tyX6_ok nmX6 0 rfl rfl 8 (by decide) rfl (List.mem_of_getElem? (i := 2) rfl) rfl rfl rfl (Nat.le_of_ble_eq_true rfl) dX6_hold_36 rfl ?_
      subst e_12
      subst e_11
      subst e_10
      subst ex_1
      exact sw_vret (pc := 39) F T ((hd + 1), 0, (f_X6_log_o1_3 eo en), (f_X6_log_o1_4 en), (f_X6_log_o2 tm eo en ef 3 0)) ⟨rfl, (by unfold f_X6_hold_o0_8; rw [if_pos c_2, if_neg c_13]), (by unfold f_X6_hold_o1_3; rw [if_pos c_2]), (by unfold f_X6_hold_o1_4; rw [if_pos c_2]), (by unfold f_X6_hold_o2; rw [if_pos c_2])⟩ rfl dX6_hold_39
def f_X6_measureDifferential_o0_7 (hd : Int32) (tr : Int32) (ur : Int32) : Int32 := if (f_X8_isFaulty_r tr) = 0 then (0) else (if (f_X8_isFaulty_r ur) = 0 then (0) else ((f_X6_hold_o0_7 hd)))
def f_X6_measureDifferential_o0_8 (rg : Int32) (hd : Int32) (df : Int32) (tr : Int32) (tf : Int32) (ur : Int32) (uf : Int32) : Int32 := if (f_X8_isFaulty_r tr) = 0 then (if rg = 0 then ((if (0 : Int32) < tf then tf else (0 : Int32))) else ((if (0 : Int32) < uf then uf else (0 : Int32)))) else (if (f_X8_isFaulty_r ur) = 0 then (if rg = 0 then ((if (0 : Int32) < tf then tf else (0 : Int32))) else ((if (0 : Int32) < uf then uf else (0 : Int32)))) else ((f_X6_hold_o0_8 hd df)))
def f_X6_measureDifferential_o3_3 (hd : Int32) (tr : Int32) (ur : Int32) (eo : Int32) (en : Int32) : Int32 := if (f_X8_isFaulty_r tr) = 0 then (eo) else (if (f_X8_isFaulty_r ur) = 0 then (eo) else ((f_X6_hold_o1_3 hd eo en)))
def f_X6_measureDifferential_o3_4 (hd : Int32) (tr : Int32) (ur : Int32) (en : Int32) : Int32 := if (f_X8_isFaulty_r tr) = 0 then (en) else (if (f_X8_isFaulty_r ur) = 0 then (en) else ((f_X6_hold_o1_4 hd en)))
def f_X6_measureDifferential_o4 (tm : Int32) (hd : Int32) (tr : Int32) (ur : Int32) (eo : Int32) (en : Int32) (ef : Nat → Int64) : Nat → Int64 := if (f_X8_isFaulty_r tr) = 0 then (ef) else (if (f_X8_isFaulty_r ur) = 0 then (ef) else ((f_X6_hold_o2 tm hd eo en ef)))
set_option maxHeartbeats 4000000 in
set_option maxRecDepth 100000 in
theorem k_X6_measureDifferential (l : Launch) (G : sw_E) (h0 : Nat) (a1 : Nat) (a2 : Nat) (a3 : Nat) (a4 : Nat) (a5 : Nat) (a8 : Nat) (a9 : Nat) (a10 : Nat) (a13 : Nat) (a14 : Nat) (a15 : Nat) (a16 : Nat) (a19 : Nat) (tm : Int32) (ch : Int32) (rg : Int32) (hd : Int32) (df : Int32) (fl : Int64) (ms : Int64) (vo : Int64) (ts : Int32) (td : Int32) (tr : Int32) (tf : Int32) (tw : Int32) (us : Int32) (ud : Int32) (ur : Int32) (uf : Int32) (uw : Int32) (eo : Int32) (en : Int32) (ef : Nat → Int64)  : sw_M l G yX6_measureDifferential wsX6_measureDifferential ({ frames := 4, cells := 0, slots := 0, locals := 90 } : Room) [.ref h0] [(h0, .inr (6, [.int tm, .int ch, .ref a1, .ref a2, .ref a3, .ref a4, .int rg, .int hd, .int df, .ref a5, .ref a8, .long fl, .long ms, .long vo, .ref a9, .ref a10, .ref a13, .ref a14, .ref a15, .ref a16])), (a1, .inr (8, [.int 0, .int ts, .int td, .int tr, .int tf, .int tw])), (a2, .inr (8, [.int 0, .int us, .int ud, .int ur, .int uf, .int uw])), (a16, .inr (4, [.int 30, .int 3, .ref a19, .int eo, .int en])), (a19, .inl (G.2.1.2, 90, .inr (.inl ef)))] (sw_QV G (S := Int32 × Int32 × Int32 × Int32 × (Nat → Int64)) (fun (u : Int32 × Int32 × Int32 × Int32 × (Nat → Int64)) => u.1 = f_X6_measureDifferential_o0_7 hd tr ur ∧ u.2.1 = f_X6_measureDifferential_o0_8 rg hd df tr tf ur uf ∧ u.2.2.1 = f_X6_measureDifferential_o3_3 hd tr ur eo en ∧ u.2.2.2.1 = f_X6_measureDifferential_o3_4 hd tr ur en ∧ u.2.2.2.2 = f_X6_measureDifferential_o4 tm hd tr ur eo en ef) (fun u => [(h0, .inr (6, [.int tm, .int ch, .ref a1, .ref a2, .ref a3, .ref a4, .int rg, .int u.1, .int u.2.1, .ref a5, .ref a8, .long fl, .long ms, .long vo, .ref a9, .ref a10, .ref a13, .ref a14, .ref a15, .ref a16])), (a1, .inr (8, [.int 0, .int ts, .int td, .int tr, .int tf, .int tw])), (a2, .inr (8, [.int 0, .int us, .int ud, .int ur, .int uf, .int uw])), (a16, .inr (4, [.int 30, .int 3, .ref a19, .int u.2.2.1, .int u.2.2.2.1])), (a19, .inl (G.2.1.2, 90, .inr (.inl u.2.2.2.2)))])) 0 0 := by
  refine sw_start (cc := cX6_measureDifferential) (maxL := 1) (ret := none) (lv := [(0, .ref h0)]) (own := RX6) (nm := "measureDifferential") (by decide +kernel) rfl rfl rfl rfl (Nat.le_of_ble_eq_true rfl) (fun C F T => ?_)
  have in6 : ∀ w ∈ u_ws RX6 TX6 20, w ∈ wsX6_measureDifferential := fun w h => List.mem_cons_of_mem _ (List.mem_append_left _ (List.mem_append_left _ (List.mem_append_right _ (h))))
  have in8 : ∀ w ∈ u_ws RX8 TX8 6, w ∈ wsX6_measureDifferential := fun w h => List.mem_cons_of_mem _ (List.mem_append_left _ (List.mem_append_right _ (h)))
  refine sw_aload_n (pc := 0) F dX6_measureDifferential_0 rfl 0 rfl ?_
  refine sw_get (pc := 1) (Cn := RX6) (T := TX6) (N := 20) (ci := 6) (v := .ref a1) F in6 0 rfl rfl 2 (by decide) rfl (List.mem_of_getElem? (i := 1) rfl) rfl dX6_measureDifferential_1 ?_
  refine sw_calli (pc := 4) (wr := [(h0, .inr (6, [.int tm, .int ch, .ref a1, .ref a2, .ref a3, .ref a4, .int rg, .int hd, .int df, .ref a5, .ref a8, .long fl, .long ms, .long vo, .ref a9, .ref a10, .ref a13, .ref a14, .ref a15, .ref a16])), (a2, .inr (8, [.int 0, .int us, .int ud, .int ur, .int uf, .int uw])), (a16, .inr (4, [.int 30, .int 3, .ref a19, .int eo, .int en])), (a19, .inl (G.2.1.2, 90, .inr (.inl ef)))]) (k' := 0) (n' := 0) F (sw_runV (R := ({ frames := 4, cells := 0, slots := 0, locals := 90 } : Room)) (q0 := 0) (na := 0) F T.2.1 T.2.2.1 (k_X8_isFaulty l G a1 0 ts td tr tf tw) [1] rfl (by decide) gX6_measureDifferential_X8_isFaulty rfl rfl rfl (by decide +kernel) ⟨Nat.le_of_ble_eq_true rfl, Nat.le_of_ble_eq_true rfl⟩ rfl rfl rfl rfl rfl (Nat.le_of_ble_eq_true rfl) dX6_measureDifferential_4 (Nat.le_of_ble_eq_true rfl) (Nat.le_of_ble_eq_true rfl)) [1] [0, 2, 3, 4] rfl rfl (by decide) (by decide) rfl rfl (fun r_1 u_2 h_3 => ?_)
  have e_4 : r_1 = f_X8_isFaulty_r tr := h_3
  refine sw_eq (ws' := [(h0, .inr (6, [.int tm, .int ch, .ref a1, .ref a2, .ref a3, .ref a4, .int rg, .int hd, .int df, .ref a5, .ref a8, .long fl, .long ms, .long vo, .ref a9, .ref a10, .ref a13, .ref a14, .ref a15, .ref a16])), (a2, .inr (8, [.int 0, .int us, .int ud, .int ur, .int uf, .int uw])), (a16, .inr (4, [.int 30, .int 3, .ref a19, .int eo, .int en])), (a19, .inl (G.2.1.2, 90, .inr (.inl ef))), (a1, .inr (8, [.int 0, .int ts, .int td, .int tr, .int tf, .int tw]))]) (lv' := [(0, .ref h0)]) (st' := [.int r_1]) rfl rfl rfl ?_
  refine sw_if_eq (pc := 7) (tgt := 27) F dX6_measureDifferential_7 (by decide) (fun c_5 => ?_) (fun c_5 => ?_)
  · skip
    refine sw_aload_n (pc := 27) F dX6_measureDifferential_27 rfl 0 rfl ?_
    refine sw_iconst (pc := 28) (v := 0) F dX6_measureDifferential_28 rfl ?_
    refine sw_put (pc := 29) (Cn := RX6) (T := TX6) (N := 20) (ci := 6) (ty0 := tyX6) (ws' := [(h0, .inr (6, [.int tm, .int ch, .ref a1, .ref a2, .ref a3, .ref a4, .int rg, .int 0, .int df, .ref a5, .ref a8, .long fl, .long ms, .long vo, .ref a9, .ref a10, .ref a13, .ref a14, .ref a15, .ref a16])), (a2, .inr (8, [.int 0, .int us, .int ud, .int ur, .int uf, .int uw])), (a16, .inr (4, [.int 30, .int 3, .ref a19, .int eo, .int en])), (a19, .inl (G.2.1.2, 90, .inr (.inl ef))), (a1, .inr (8, [.int 0, .int ts, .int td, .int tr, .int tf, .int tw]))]) F in6 tyX6_ok nmX6 0 rfl rfl 7 (by decide) rfl (List.mem_of_getElem? (i := 3) rfl) rfl rfl rfl (Nat.le_of_ble_eq_true rfl) dX6_measureDifferential_29 rfl ?_
    refine sw_aload_n (pc := 32) F dX6_measureDifferential_32 rfl 0 rfl ?_
    refine sw_iconst (pc := 33) (v := 0) F dX6_measureDifferential_33 rfl ?_
    refine sw_aload_n (pc := 34) F dX6_measureDifferential_34 rfl 0 rfl ?_
    refine sw_get (pc := 35) (Cn := RX6) (T := TX6) (N := 20) (ci := 6) (v := .int rg) F in6 0 rfl rfl 6 (by decide) rfl (List.mem_of_getElem? (i := 4) rfl) rfl dX6_measureDifferential_35 ?_
    refine sw_if_ne (pc := 38) (tgt := 51) F dX6_measureDifferential_38 (by decide) (fun c_6 => ?_) (fun c_6 => ?_)
    · skip
      refine sw_aload_n (pc := 51) F dX6_measureDifferential_51 rfl 0 rfl ?_
      refine sw_get (pc := 52) (Cn := RX6) (T := TX6) (N := 20) (ci := 6) (v := .ref a2) F in6 0 rfl rfl 3 (by decide) rfl (List.mem_of_getElem? (i := 2) rfl) rfl dX6_measureDifferential_52 ?_
      refine sw_get (pc := 55) (Cn := RX8) (T := TX8) (N := 6) (ci := 8) (v := .int uf) F in8 1 rfl rfl 4 (by decide) rfl (List.mem_of_getElem? (i := 5) rfl) rfl dX6_measureDifferential_55 ?_
      refine sw_max (pc := 58) (rm := ({ frames := 4, cells := 0, slots := 0, locals := 90 } : Room)) F T.2.1 (List.mem_of_getElem? (i := 6) rfl) (List.mem_of_getElem? (i := 7) rfl) (List.mem_of_getElem? (i := 8) rfl) (List.mem_of_getElem? (i := 9) rfl) (Nat.le_of_ble_eq_true rfl) (Nat.le_of_ble_eq_true rfl) (Nat.le_of_ble_eq_true rfl) (Nat.le_of_ble_eq_true rfl) dX6_measureDifferential_58 ?_
      refine sw_topi (fun x_7 ex_7 => ?_)
      refine sw_put (pc := 61) (Cn := RX6) (T := TX6) (N := 20) (ci := 6) (ty0 := tyX6) (ws' := [(h0, .inr (6, [.int tm, .int ch, .ref a1, .ref a2, .ref a3, .ref a4, .int rg, .int 0, .int x_7, .ref a5, .ref a8, .long fl, .long ms, .long vo, .ref a9, .ref a10, .ref a13, .ref a14, .ref a15, .ref a16])), (a2, .inr (8, [.int 0, .int us, .int ud, .int ur, .int uf, .int uw])), (a16, .inr (4, [.int 30, .int 3, .ref a19, .int eo, .int en])), (a19, .inl (G.2.1.2, 90, .inr (.inl ef))), (a1, .inr (8, [.int 0, .int ts, .int td, .int tr, .int tf, .int tw]))]) F in6 tyX6_ok nmX6 0 rfl rfl 8 (by decide) rfl (List.mem_of_getElem? (i := 10) rfl) rfl rfl rfl (Nat.le_of_ble_eq_true rfl) dX6_measureDifferential_61 rfl ?_
      subst ex_7
      subst e_4
      refine sw_perm (ws' := [(h0, .inr (6, [.int tm, .int ch, .ref a1, .ref a2, .ref a3, .ref a4, .int rg, .int 0, .int ((if (0 : Int32) < uf then uf else (0 : Int32))), .ref a5, .ref a8, .long fl, .long ms, .long vo, .ref a9, .ref a10, .ref a13, .ref a14, .ref a15, .ref a16])), (a1, .inr (8, [.int 0, .int ts, .int td, .int tr, .int tf, .int tw])), (a2, .inr (8, [.int 0, .int us, .int ud, .int ur, .int uf, .int uw])), (a16, .inr (4, [.int 30, .int 3, .ref a19, .int eo, .int en])), (a19, .inl (G.2.1.2, 90, .inr (.inl ef)))]) [0, 4, 1, 2, 3] (by decide) rfl ?_
      exact sw_vret (pc := 64) F T (0, (if (0 : Int32) < uf then uf else (0 : Int32)), eo, en, ef) ⟨(by unfold f_X6_measureDifferential_o0_7; rw [if_pos c_5]), (by unfold f_X6_measureDifferential_o0_8; rw [if_pos c_5, if_neg c_6]), (by unfold f_X6_measureDifferential_o3_3; rw [if_pos c_5]), (by unfold f_X6_measureDifferential_o3_4; rw [if_pos c_5]), (by unfold f_X6_measureDifferential_o4; rw [if_pos c_5])⟩ rfl dX6_measureDifferential_64
    · skip
      refine sw_aload_n (pc := 41) F dX6_measureDifferential_41 rfl 0 rfl ?_
      refine sw_get (pc := 42) (Cn := RX6) (T := TX6) (N := 20) (ci := 6) (v := .ref a1) F in6 0 rfl rfl 2 (by decide) rfl (List.mem_of_getElem? (i := 1) rfl) rfl dX6_measureDifferential_42 ?_
      refine sw_get (pc := 45) (Cn := RX8) (T := TX8) (N := 6) (ci := 8) (v := .int tf) F in8 4 rfl rfl 4 (by decide) rfl (List.mem_of_getElem? (i := 5) rfl) rfl dX6_measureDifferential_45 ?_
      refine sw_goto (pc := 48) (tgt := 58) F dX6_measureDifferential_48 (by decide) ?_
      refine sw_max (pc := 58) (rm := ({ frames := 4, cells := 0, slots := 0, locals := 90 } : Room)) F T.2.1 (List.mem_of_getElem? (i := 6) rfl) (List.mem_of_getElem? (i := 7) rfl) (List.mem_of_getElem? (i := 8) rfl) (List.mem_of_getElem? (i := 9) rfl) (Nat.le_of_ble_eq_true rfl) (Nat.le_of_ble_eq_true rfl) (Nat.le_of_ble_eq_true rfl) (Nat.le_of_ble_eq_true rfl) dX6_measureDifferential_58 ?_
      refine sw_topi (fun x_8 ex_8 => ?_)
      refine sw_put (pc := 61) (Cn := RX6) (T := TX6) (N := 20) (ci := 6) (ty0 := tyX6) (ws' := [(h0, .inr (6, [.int tm, .int ch, .ref a1, .ref a2, .ref a3, .ref a4, .int rg, .int 0, .int x_8, .ref a5, .ref a8, .long fl, .long ms, .long vo, .ref a9, .ref a10, .ref a13, .ref a14, .ref a15, .ref a16])), (a2, .inr (8, [.int 0, .int us, .int ud, .int ur, .int uf, .int uw])), (a16, .inr (4, [.int 30, .int 3, .ref a19, .int eo, .int en])), (a19, .inl (G.2.1.2, 90, .inr (.inl ef))), (a1, .inr (8, [.int 0, .int ts, .int td, .int tr, .int tf, .int tw]))]) F in6 tyX6_ok nmX6 0 rfl rfl 8 (by decide) rfl (List.mem_of_getElem? (i := 10) rfl) rfl rfl rfl (Nat.le_of_ble_eq_true rfl) dX6_measureDifferential_61 rfl ?_
      subst ex_8
      subst e_4
      refine sw_perm (ws' := [(h0, .inr (6, [.int tm, .int ch, .ref a1, .ref a2, .ref a3, .ref a4, .int rg, .int 0, .int ((if (0 : Int32) < tf then tf else (0 : Int32))), .ref a5, .ref a8, .long fl, .long ms, .long vo, .ref a9, .ref a10, .ref a13, .ref a14, .ref a15, .ref a16])), (a1, .inr (8, [.int 0, .int ts, .int td, .int tr, .int tf, .int tw])), (a2, .inr (8, [.int 0, .int us, .int ud, .int ur, .int uf, .int uw])), (a16, .inr (4, [.int 30, .int 3, .ref a19, .int eo, .int en])), (a19, .inl (G.2.1.2, 90, .inr (.inl ef)))]) [0, 4, 1, 2, 3] (by decide) rfl ?_
      exact sw_vret (pc := 64) F T (0, (if (0 : Int32) < tf then tf else (0 : Int32)), eo, en, ef) ⟨(by unfold f_X6_measureDifferential_o0_7; rw [if_pos c_5]), (by unfold f_X6_measureDifferential_o0_8; rw [if_pos c_5, if_pos c_6]), (by unfold f_X6_measureDifferential_o3_3; rw [if_pos c_5]), (by unfold f_X6_measureDifferential_o3_4; rw [if_pos c_5]), (by unfold f_X6_measureDifferential_o4; rw [if_pos c_5])⟩ rfl dX6_measureDifferential_64
  · skip
    refine sw_aload_n (pc := 10) F dX6_measureDifferential_10 rfl 0 rfl ?_
    refine sw_get (pc := 11) (Cn := RX6) (T := TX6) (N := 20) (ci := 6) (v := .ref a2) F in6 0 rfl rfl 3 (by decide) rfl (List.mem_of_getElem? (i := 2) rfl) rfl dX6_measureDifferential_11 ?_
    refine sw_calli (pc := 14) (wr := [(h0, .inr (6, [.int tm, .int ch, .ref a1, .ref a2, .ref a3, .ref a4, .int rg, .int hd, .int df, .ref a5, .ref a8, .long fl, .long ms, .long vo, .ref a9, .ref a10, .ref a13, .ref a14, .ref a15, .ref a16])), (a16, .inr (4, [.int 30, .int 3, .ref a19, .int eo, .int en])), (a19, .inl (G.2.1.2, 90, .inr (.inl ef))), (a1, .inr (8, [.int 0, .int ts, .int td, .int tr, .int tf, .int tw]))]) (k' := 0) (n' := 0) F (sw_runV (R := ({ frames := 4, cells := 0, slots := 0, locals := 90 } : Room)) (q0 := 0) (na := 0) F T.2.1 T.2.2.1 (k_X8_isFaulty l G a2 0 us ud ur uf uw) [1] rfl (by decide) gX6_measureDifferential_X8_isFaulty rfl rfl rfl (by decide +kernel) ⟨Nat.le_of_ble_eq_true rfl, Nat.le_of_ble_eq_true rfl⟩ rfl rfl rfl rfl rfl (Nat.le_of_ble_eq_true rfl) dX6_measureDifferential_14 (Nat.le_of_ble_eq_true rfl) (Nat.le_of_ble_eq_true rfl)) [1] [0, 2, 3, 4] rfl rfl (by decide) (by decide) rfl rfl (fun r_9 u_10 h_11 => ?_)
    have e_12 : r_9 = f_X8_isFaulty_r ur := h_11
    refine sw_eq (ws' := [(h0, .inr (6, [.int tm, .int ch, .ref a1, .ref a2, .ref a3, .ref a4, .int rg, .int hd, .int df, .ref a5, .ref a8, .long fl, .long ms, .long vo, .ref a9, .ref a10, .ref a13, .ref a14, .ref a15, .ref a16])), (a16, .inr (4, [.int 30, .int 3, .ref a19, .int eo, .int en])), (a19, .inl (G.2.1.2, 90, .inr (.inl ef))), (a1, .inr (8, [.int 0, .int ts, .int td, .int tr, .int tf, .int tw])), (a2, .inr (8, [.int 0, .int us, .int ud, .int ur, .int uf, .int uw]))]) (lv' := [(0, .ref h0)]) (st' := [.int r_9]) rfl rfl rfl ?_
    refine sw_if_eq (pc := 17) (tgt := 27) F dX6_measureDifferential_17 (by decide) (fun c_13 => ?_) (fun c_13 => ?_)
    · skip
      refine sw_aload_n (pc := 27) F dX6_measureDifferential_27 rfl 0 rfl ?_
      refine sw_iconst (pc := 28) (v := 0) F dX6_measureDifferential_28 rfl ?_
      refine sw_put (pc := 29) (Cn := RX6) (T := TX6) (N := 20) (ci := 6) (ty0 := tyX6) (ws' := [(h0, .inr (6, [.int tm, .int ch, .ref a1, .ref a2, .ref a3, .ref a4, .int rg, .int 0, .int df, .ref a5, .ref a8, .long fl, .long ms, .long vo, .ref a9, .ref a10, .ref a13, .ref a14, .ref a15, .ref a16])), (a16, .inr (4, [.int 30, .int 3, .ref a19, .int eo, .int en])), (a19, .inl (G.2.1.2, 90, .inr (.inl ef))), (a1, .inr (8, [.int 0, .int ts, .int td, .int tr, .int tf, .int tw])), (a2, .inr (8, [.int 0, .int us, .int ud, .int ur, .int uf, .int uw]))]) F in6 tyX6_ok nmX6 0 rfl rfl 7 (by decide) rfl (List.mem_of_getElem? (i := 3) rfl) rfl rfl rfl (Nat.le_of_ble_eq_true rfl) dX6_measureDifferential_29 rfl ?_
      refine sw_aload_n (pc := 32) F dX6_measureDifferential_32 rfl 0 rfl ?_
      refine sw_iconst (pc := 33) (v := 0) F dX6_measureDifferential_33 rfl ?_
      refine sw_aload_n (pc := 34) F dX6_measureDifferential_34 rfl 0 rfl ?_
      refine sw_get (pc := 35) (Cn := RX6) (T := TX6) (N := 20) (ci := 6) (v := .int rg) F in6 0 rfl rfl 6 (by decide) rfl (List.mem_of_getElem? (i := 4) rfl) rfl dX6_measureDifferential_35 ?_
      refine sw_if_ne (pc := 38) (tgt := 51) F dX6_measureDifferential_38 (by decide) (fun c_14 => ?_) (fun c_14 => ?_)
      · skip
        refine sw_aload_n (pc := 51) F dX6_measureDifferential_51 rfl 0 rfl ?_
        refine sw_get (pc := 52) (Cn := RX6) (T := TX6) (N := 20) (ci := 6) (v := .ref a2) F in6 0 rfl rfl 3 (by decide) rfl (List.mem_of_getElem? (i := 2) rfl) rfl dX6_measureDifferential_52 ?_
        refine sw_get (pc := 55) (Cn := RX8) (T := TX8) (N := 6) (ci := 8) (v := .int uf) F in8 4 rfl rfl 4 (by decide) rfl (List.mem_of_getElem? (i := 5) rfl) rfl dX6_measureDifferential_55 ?_
        refine sw_max (pc := 58) (rm := ({ frames := 4, cells := 0, slots := 0, locals := 90 } : Room)) F T.2.1 (List.mem_of_getElem? (i := 6) rfl) (List.mem_of_getElem? (i := 7) rfl) (List.mem_of_getElem? (i := 8) rfl) (List.mem_of_getElem? (i := 9) rfl) (Nat.le_of_ble_eq_true rfl) (Nat.le_of_ble_eq_true rfl) (Nat.le_of_ble_eq_true rfl) (Nat.le_of_ble_eq_true rfl) dX6_measureDifferential_58 ?_
        refine sw_topi (fun x_15 ex_15 => ?_)
        refine sw_put (pc := 61) (Cn := RX6) (T := TX6) (N := 20) (ci := 6) (ty0 := tyX6) (ws' := [(h0, .inr (6, [.int tm, .int ch, .ref a1, .ref a2, .ref a3, .ref a4, .int rg, .int 0, .int x_15, .ref a5, .ref a8, .long fl, .long ms, .long vo, .ref a9, .ref a10, .ref a13, .ref a14, .ref a15, .ref a16])), (a16, .inr (4, [.int 30, .int 3, .ref a19, .int eo, .int en])), (a19, .inl (G.2.1.2, 90, .inr (.inl ef))), (a1, .inr (8, [.int 0, .int ts, .int td, .int tr, .int tf, .int tw])), (a2, .inr (8, [.int 0, .int us, .int ud, .int ur, .int uf, .int uw]))]) F in6 tyX6_ok nmX6 0 rfl rfl 8 (by decide) rfl (List.mem_of_getElem? (i := 10) rfl) rfl rfl rfl (Nat.le_of_ble_eq_true rfl) dX6_measureDifferential_61 rfl ?_
        subst ex_15
        subst e_12
        subst e_4
        refine sw_perm (ws' := [(h0, .inr (6, [.int tm, .int ch, .ref a1, .ref a2, .ref a3, .ref a4, .int rg, .int 0, .int ((if (0 : Int32) < uf then uf else (0 : Int32))), .ref a5, .ref a8, .long fl, .long ms, .long vo, .ref a9, .ref a10, .ref a13, .ref a14, .ref a15, .ref a16])), (a1, .inr (8, [.int 0, .int ts, .int td, .int tr, .int tf, .int tw])), (a2, .inr (8, [.int 0, .int us, .int ud, .int ur, .int uf, .int uw])), (a16, .inr (4, [.int 30, .int 3, .ref a19, .int eo, .int en])), (a19, .inl (G.2.1.2, 90, .inr (.inl ef)))]) [0, 3, 4, 1, 2] (by decide) rfl ?_
        exact sw_vret (pc := 64) F T (0, (if (0 : Int32) < uf then uf else (0 : Int32)), eo, en, ef) ⟨(by unfold f_X6_measureDifferential_o0_7; rw [if_neg c_5, if_pos c_13]), (by unfold f_X6_measureDifferential_o0_8; rw [if_neg c_5, if_pos c_13, if_neg c_14]), (by unfold f_X6_measureDifferential_o3_3; rw [if_neg c_5, if_pos c_13]), (by unfold f_X6_measureDifferential_o3_4; rw [if_neg c_5, if_pos c_13]), (by unfold f_X6_measureDifferential_o4; rw [if_neg c_5, if_pos c_13])⟩ rfl dX6_measureDifferential_64
      · skip
        refine sw_aload_n (pc := 41) F dX6_measureDifferential_41 rfl 0 rfl ?_
        refine sw_get (pc := 42) (Cn := RX6) (T := TX6) (N := 20) (ci := 6) (v := .ref a1) F in6 0 rfl rfl 2 (by decide) rfl (List.mem_of_getElem? (i := 1) rfl) rfl dX6_measureDifferential_42 ?_
        refine sw_get (pc := 45) (Cn := RX8) (T := TX8) (N := 6) (ci := 8) (v := .int tf) F in8 3 rfl rfl 4 (by decide) rfl (List.mem_of_getElem? (i := 5) rfl) rfl dX6_measureDifferential_45 ?_
        refine sw_goto (pc := 48) (tgt := 58) F dX6_measureDifferential_48 (by decide) ?_
        refine sw_max (pc := 58) (rm := ({ frames := 4, cells := 0, slots := 0, locals := 90 } : Room)) F T.2.1 (List.mem_of_getElem? (i := 6) rfl) (List.mem_of_getElem? (i := 7) rfl) (List.mem_of_getElem? (i := 8) rfl) (List.mem_of_getElem? (i := 9) rfl) (Nat.le_of_ble_eq_true rfl) (Nat.le_of_ble_eq_true rfl) (Nat.le_of_ble_eq_true rfl) (Nat.le_of_ble_eq_true rfl) dX6_measureDifferential_58 ?_
        refine sw_topi (fun x_16 ex_16 => ?_)
        refine sw_put (pc := 61) (Cn := RX6) (T := TX6) (N := 20) (ci := 6) (ty0 := tyX6) (ws' := [(h0, .inr (6, [.int tm, .int ch, .ref a1, .ref a2, .ref a3, .ref a4, .int rg, .int 0, .int x_16, .ref a5, .ref a8, .long fl, .long ms, .long vo, .ref a9, .ref a10, .ref a13, .ref a14, .ref a15, .ref a16])), (a16, .inr (4, [.int 30, .int 3, .ref a19, .int eo, .int en])), (a19, .inl (G.2.1.2, 90, .inr (.inl ef))), (a1, .inr (8, [.int 0, .int ts, .int td, .int tr, .int tf, .int tw])), (a2, .inr (8, [.int 0, .int us, .int ud, .int ur, .int uf, .int uw]))]) F in6 tyX6_ok nmX6 0 rfl rfl 8 (by decide) rfl (List.mem_of_getElem? (i := 10) rfl) rfl rfl rfl (Nat.le_of_ble_eq_true rfl) dX6_measureDifferential_61 rfl ?_
        subst ex_16
        subst e_12
        subst e_4
        refine sw_perm (ws' := [(h0, .inr (6, [.int tm, .int ch, .ref a1, .ref a2, .ref a3, .ref a4, .int rg, .int 0, .int ((if (0 : Int32) < tf then tf else (0 : Int32))), .ref a5, .ref a8, .long fl, .long ms, .long vo, .ref a9, .ref a10, .ref a13, .ref a14, .ref a15, .ref a16])), (a1, .inr (8, [.int 0, .int ts, .int td, .int tr, .int tf, .int tw])), (a2, .inr (8, [.int 0, .int us, .int ud, .int ur, .int uf, .int uw])), (a16, .inr (4, [.int 30, .int 3, .ref a19, .int eo, .int en])), (a19, .inl (G.2.1.2, 90, .inr (.inl ef)))]) [0, 3, 4, 1, 2] (by decide) rfl ?_
        exact sw_vret (pc := 64) F T (0, (if (0 : Int32) < tf then tf else (0 : Int32)), eo, en, ef) ⟨(by unfold f_X6_measureDifferential_o0_7; rw [if_neg c_5, if_pos c_13]), (by unfold f_X6_measureDifferential_o0_8; rw [if_neg c_5, if_pos c_13, if_pos c_14]), (by unfold f_X6_measureDifferential_o3_3; rw [if_neg c_5, if_pos c_13]), (by unfold f_X6_measureDifferential_o3_4; rw [if_neg c_5, if_pos c_13]), (by unfold f_X6_measureDifferential_o4; rw [if_neg c_5, if_pos c_13])⟩ rfl dX6_measureDifferential_64
    · skip
      refine sw_aload_n (pc := 20) F dX6_measureDifferential_20 rfl 0 rfl ?_
      refine sw_callv (pc := 21) (wr := [(a1, .inr (8, [.int 0, .int ts, .int td, .int tr, .int tf, .int tw])), (a2, .inr (8, [.int 0, .int us, .int ud, .int ur, .int uf, .int uw]))]) (k' := 0) (n' := 0) F (sw_runV (R := ({ frames := 4, cells := 0, slots := 0, locals := 90 } : Room)) (q0 := 0) (na := 0) F T.2.1 T.2.2.1 (k_X6_hold l G h0 a1 a2 a3 a4 a5 a8 a9 a10 a13 a14 a15 a16 a19 tm ch rg hd df fl ms vo eo en ef) [0, 1, 2] rfl (by decide) gX6_measureDifferential_X6_hold rfl rfl rfl (by decide +kernel) ⟨Nat.le_of_ble_eq_true rfl, Nat.le_of_ble_eq_true rfl⟩ rfl rfl rfl rfl rfl (Nat.le_of_ble_eq_true rfl) dX6_measureDifferential_21 (Nat.le_of_ble_eq_true rfl) (Nat.le_of_ble_eq_true rfl)) [0, 1, 2] [3, 4] rfl rfl (by decide) (by decide) rfl rfl (fun u_18 h_19 => ?_)
      obtain ⟨o_20, o_21, o_22, o_23, o_24⟩ := u_18
      obtain ⟨e_25, e_26, e_27, e_28, e_29⟩ : o_20 = f_X6_hold_o0_7 hd ∧ o_21 = f_X6_hold_o0_8 hd df ∧ o_22 = f_X6_hold_o1_3 hd eo en ∧ o_23 = f_X6_hold_o1_4 hd en ∧ o_24 = f_X6_hold_o2 tm hd eo en ef := h_19
      refine sw_eq (ws' := [(a1, .inr (8, [.int 0, .int ts, .int td, .int tr, .int tf, .int tw])), (a2, .inr (8, [.int 0, .int us, .int ud, .int ur, .int uf, .int uw])), (h0, .inr (6, [.int tm, .int ch, .ref a1, .ref a2, .ref a3, .ref a4, .int rg, .int o_20, .int o_21, .ref a5, .ref a8, .long fl, .long ms, .long vo, .ref a9, .ref a10, .ref a13, .ref a14, .ref a15, .ref a16])), (a16, .inr (4, [.int 30, .int 3, .ref a19, .int o_22, .int o_23])), (a19, .inl (G.2.1.2, 90, .inr (.inl o_24)))]) (lv' := [(0, .ref h0)]) (st' := []) rfl rfl rfl ?_
      refine sw_goto (pc := 24) (tgt := 64) F dX6_measureDifferential_24 (by decide) ?_
      subst e_29
      subst e_28
      subst e_27
      subst e_26
      subst e_25
      subst e_12
      subst e_4
      refine sw_perm (ws' := [(h0, .inr (6, [.int tm, .int ch, .ref a1, .ref a2, .ref a3, .ref a4, .int rg, .int ((f_X6_hold_o0_7 hd)), .int ((f_X6_hold_o0_8 hd df)), .ref a5, .ref a8, .long fl, .long ms, .long vo, .ref a9, .ref a10, .ref a13, .ref a14, .ref a15, .ref a16])), (a1, .inr (8, [.int 0, .int ts, .int td, .int tr, .int tf, .int tw])), (a2, .inr (8, [.int 0, .int us, .int ud, .int ur, .int uf, .int uw])), (a16, .inr (4, [.int 30, .int 3, .ref a19, .int ((f_X6_hold_o1_3 hd eo en)), .int ((f_X6_hold_o1_4 hd en))])), (a19, .inl (G.2.1.2, 90, .inr (.inl ((f_X6_hold_o2 tm hd eo en ef)))))]) [2, 0, 1, 3, 4] (by decide) rfl ?_
      exact sw_vret (pc := 64) F T ((f_X6_hold_o0_7 hd), (f_X6_hold_o0_8 hd df), (f_X6_hold_o1_3 hd eo en), (f_X6_hold_o1_4 hd en), (f_X6_hold_o2 tm hd eo en ef)) ⟨(by unfold f_X6_measureDifferential_o0_7; rw [if_neg c_5, if_neg c_13]), (by unfold f_X6_measureDifferential_o0_8; rw [if_neg c_5, if_neg c_13]), (by unfold f_X6_measureDifferential_o3_3; rw [if_neg c_5, if_neg c_13]), (by unfold f_X6_measureDifferential_o3_4; rw [if_neg c_5, if_neg c_13]), (by unfold f_X6_measureDifferential_o4; rw [if_neg c_5, if_neg c_13])⟩ rfl dX6_measureDifferential_64
def f_X6_fillBatch_o1_1 (fl : Int64) (bo : Int32) (bp : Int32) (bm : Int64) : Int32 := if bo = 0 then (bo) else ((f_X0_fill_o0_1 bo bp bm fl))
def f_X6_fillBatch_o1_4 (fl : Int64) (bo : Int32) (bm : Int64) : Int64 := if bo = 0 then (bm) else ((f_X0_fill_o0_4 bm fl))
def f_X6_fillBatch_o1_5 (fl : Int64) (bo : Int32) (bp : Int32) (bs : Int32) (bm : Int64) (bv : Int32) : Int32 := if bo = 0 then (bv) else ((f_X0_fill_o0_5 bp bs bm fl))
def f_X6_fillBatch_o2_3 (fl : Int64) (bo : Int32) (bp : Int32) (bm : Int64) (eo : Int32) (en : Int32) : Int32 := if bo = 0 then (eo) else (if (f_X0_fill_o0_1 bo bp bm fl) = 0 then ((f_X6_log_o1_3 eo en)) else (eo))
def f_X6_fillBatch_o2_4 (fl : Int64) (bo : Int32) (bp : Int32) (bm : Int64) (en : Int32) : Int32 := if bo = 0 then (en) else (if (f_X0_fill_o0_1 bo bp bm fl) = 0 then ((f_X6_log_o1_4 en)) else (en))
def f_X6_fillBatch_o3 (tm : Int32) (fl : Int64) (bo : Int32) (bp : Int32) (bm : Int64) (eo : Int32) (en : Int32) (ef : Nat → Int64) : Nat → Int64 := if bo = 0 then (ef) else (if (f_X0_fill_o0_1 bo bp bm fl) = 0 then ((f_X6_log_o2 tm eo en ef 4 ((f_X0_fill_o0_4 bm fl) - bp.toInt64))) else (ef))
set_option maxHeartbeats 4000000 in
set_option maxRecDepth 100000 in
theorem k_X6_fillBatch (l : Launch) (G : sw_E) (h0 : Nat) (a1 : Nat) (a2 : Nat) (a3 : Nat) (a4 : Nat) (a5 : Nat) (a8 : Nat) (a9 : Nat) (a10 : Nat) (a13 : Nat) (a14 : Nat) (a15 : Nat) (a16 : Nat) (a19 : Nat) (tm : Int32) (ch : Int32) (rg : Int32) (hd : Int32) (df : Int32) (fl : Int64) (ms : Int64) (vo : Int64) (bd : Int32) (bo : Int32) (bp : Int32) (bs : Int32) (bm : Int64) (bv : Int32) (eo : Int32) (en : Int32) (ef : Nat → Int64)  : sw_M l G yX6_fillBatch wsX6_fillBatch ({ frames := 3, cells := 0, slots := 0, locals := 70 } : Room) [.ref h0] [(h0, .inr (6, [.int tm, .int ch, .ref a1, .ref a2, .ref a3, .ref a4, .int rg, .int hd, .int df, .ref a5, .ref a8, .long fl, .long ms, .long vo, .ref a9, .ref a10, .ref a13, .ref a14, .ref a15, .ref a16])), (a9, .inr (0, [.int bd, .int bo, .int bp, .int bs, .long bm, .int bv])), (a16, .inr (4, [.int 30, .int 3, .ref a19, .int eo, .int en])), (a19, .inl (G.2.1.2, 90, .inr (.inl ef)))] (sw_QV G (S := Int32 × Int64 × Int32 × Int32 × Int32 × (Nat → Int64)) (fun (u : Int32 × Int64 × Int32 × Int32 × Int32 × (Nat → Int64)) => u.1 = f_X6_fillBatch_o1_1 fl bo bp bm ∧ u.2.1 = f_X6_fillBatch_o1_4 fl bo bm ∧ u.2.2.1 = f_X6_fillBatch_o1_5 fl bo bp bs bm bv ∧ u.2.2.2.1 = f_X6_fillBatch_o2_3 fl bo bp bm eo en ∧ u.2.2.2.2.1 = f_X6_fillBatch_o2_4 fl bo bp bm en ∧ u.2.2.2.2.2 = f_X6_fillBatch_o3 tm fl bo bp bm eo en ef) (fun u => [(h0, .inr (6, [.int tm, .int ch, .ref a1, .ref a2, .ref a3, .ref a4, .int rg, .int hd, .int df, .ref a5, .ref a8, .long fl, .long ms, .long vo, .ref a9, .ref a10, .ref a13, .ref a14, .ref a15, .ref a16])), (a9, .inr (0, [.int bd, .int u.1, .int bp, .int bs, .long u.2.1, .int u.2.2.1])), (a16, .inr (4, [.int 30, .int 3, .ref a19, .int u.2.2.2.1, .int u.2.2.2.2.1])), (a19, .inl (G.2.1.2, 90, .inr (.inl u.2.2.2.2.2)))])) 0 0 := by
  refine sw_start (cc := cX6_fillBatch) (maxL := 1) (ret := none) (lv := [(0, .ref h0)]) (own := RX6) (nm := "fillBatch") (by decide +kernel) rfl rfl rfl rfl (Nat.le_of_ble_eq_true rfl) (fun C F T => ?_)
  have in0 : ∀ w ∈ u_ws RX0 TX0 6, w ∈ wsX6_fillBatch := fun w h => List.mem_cons_of_mem _ (List.mem_append_left _ (List.mem_append_right _ (h)))
  have in6 : ∀ w ∈ u_ws RX6 TX6 20, w ∈ wsX6_fillBatch := fun w h => List.mem_cons_of_mem _ (List.mem_append_left _ (List.mem_append_left _ (List.mem_append_right _ (h))))
  refine sw_aload_n (pc := 0) F dX6_fillBatch_0 rfl 0 rfl ?_
  refine sw_get (pc := 1) (Cn := RX6) (T := TX6) (N := 20) (ci := 6) (v := .ref a9) F in6 0 rfl rfl 14 (by decide) rfl (List.mem_of_getElem? (i := 1) rfl) rfl dX6_fillBatch_1 ?_
  refine sw_get (pc := 4) (Cn := RX0) (T := TX0) (N := 6) (ci := 0) (v := .int bo) F in0 1 rfl rfl 1 (by decide) rfl (List.mem_of_getElem? (i := 2) rfl) rfl dX6_fillBatch_4 ?_
  refine sw_if_eq (pc := 7) (tgt := 52) F dX6_fillBatch_7 (by decide) (fun c_1 => ?_) (fun c_1 => ?_)
  · skip
    exact sw_vret (pc := 52) F T (bo, bm, bv, eo, en, ef) ⟨(by unfold f_X6_fillBatch_o1_1; rw [if_pos c_1]), (by unfold f_X6_fillBatch_o1_4; rw [if_pos c_1]), (by unfold f_X6_fillBatch_o1_5; rw [if_pos c_1]), (by unfold f_X6_fillBatch_o2_3; rw [if_pos c_1]), (by unfold f_X6_fillBatch_o2_4; rw [if_pos c_1]), (by unfold f_X6_fillBatch_o3; rw [if_pos c_1])⟩ rfl dX6_fillBatch_52
  · skip
    refine sw_aload_n (pc := 10) F dX6_fillBatch_10 rfl 0 rfl ?_
    refine sw_get (pc := 11) (Cn := RX6) (T := TX6) (N := 20) (ci := 6) (v := .ref a9) F in6 0 rfl rfl 14 (by decide) rfl (List.mem_of_getElem? (i := 1) rfl) rfl dX6_fillBatch_11 ?_
    refine sw_aload_n (pc := 14) F dX6_fillBatch_14 rfl 0 rfl ?_
    refine sw_get (pc := 15) (Cn := RX6) (T := TX6) (N := 20) (ci := 6) (v := .long fl) F in6 0 rfl rfl 11 (by decide) rfl (List.mem_of_getElem? (i := 3) rfl) rfl dX6_fillBatch_15 ?_
    refine sw_callv (pc := 18) (wr := [(h0, .inr (6, [.int tm, .int ch, .ref a1, .ref a2, .ref a3, .ref a4, .int rg, .int hd, .int df, .ref a5, .ref a8, .long fl, .long ms, .long vo, .ref a9, .ref a10, .ref a13, .ref a14, .ref a15, .ref a16])), (a16, .inr (4, [.int 30, .int 3, .ref a19, .int eo, .int en])), (a19, .inl (G.2.1.2, 90, .inr (.inl ef)))]) (k' := 0) (n' := 0) F (sw_runV (R := ({ frames := 3, cells := 0, slots := 0, locals := 70 } : Room)) (q0 := 0) (na := 1) F T.2.1 T.2.2.1 (k_X0_fill l G a9 bd bo bp bs bm bv fl) [1] rfl (by decide) gX6_fillBatch_X0_fill rfl rfl rfl (by decide +kernel) ⟨Nat.le_of_ble_eq_true rfl, Nat.le_of_ble_eq_true rfl⟩ rfl rfl rfl rfl rfl (Nat.le_of_ble_eq_true rfl) dX6_fillBatch_18 (Nat.le_of_ble_eq_true rfl) (Nat.le_of_ble_eq_true rfl)) [1] [0, 2, 3] rfl rfl (by decide) (by decide) rfl rfl (fun u_3 h_4 => ?_)
    obtain ⟨o_5, o_6, o_7⟩ := u_3
    obtain ⟨e_8, e_9, e_10⟩ : o_5 = f_X0_fill_o0_1 bo bp bm fl ∧ o_6 = f_X0_fill_o0_4 bm fl ∧ o_7 = f_X0_fill_o0_5 bp bs bm fl := h_4
    refine sw_eq (ws' := [(h0, .inr (6, [.int tm, .int ch, .ref a1, .ref a2, .ref a3, .ref a4, .int rg, .int hd, .int df, .ref a5, .ref a8, .long fl, .long ms, .long vo, .ref a9, .ref a10, .ref a13, .ref a14, .ref a15, .ref a16])), (a16, .inr (4, [.int 30, .int 3, .ref a19, .int eo, .int en])), (a19, .inl (G.2.1.2, 90, .inr (.inl ef))), (a9, .inr (0, [.int bd, .int o_5, .int bp, .int bs, .long o_6, .int o_7]))]) (lv' := [(0, .ref h0)]) (st' := []) rfl rfl rfl ?_
    refine sw_aload_n (pc := 21) F dX6_fillBatch_21 rfl 0 rfl ?_
    refine sw_get (pc := 22) (Cn := RX6) (T := TX6) (N := 20) (ci := 6) (v := .ref a9) F in6 0 rfl rfl 14 (by decide) rfl (List.mem_of_getElem? (i := 1) rfl) rfl dX6_fillBatch_22 ?_
    refine sw_get (pc := 25) (Cn := RX0) (T := TX0) (N := 6) (ci := 0) (v := .int o_5) F in0 3 rfl rfl 1 (by decide) rfl (List.mem_of_getElem? (i := 2) rfl) rfl dX6_fillBatch_25 ?_
    refine sw_if_ne (pc := 28) (tgt := 52) F dX6_fillBatch_28 (by decide) (fun c_11 => ?_) (fun c_11 => ?_)
    · skip
      subst e_10
      subst e_9
      subst e_8
      refine sw_perm (ws' := [(h0, .inr (6, [.int tm, .int ch, .ref a1, .ref a2, .ref a3, .ref a4, .int rg, .int hd, .int df, .ref a5, .ref a8, .long fl, .long ms, .long vo, .ref a9, .ref a10, .ref a13, .ref a14, .ref a15, .ref a16])), (a9, .inr (0, [.int bd, .int ((f_X0_fill_o0_1 bo bp bm fl)), .int bp, .int bs, .long ((f_X0_fill_o0_4 bm fl)), .int ((f_X0_fill_o0_5 bp bs bm fl))])), (a16, .inr (4, [.int 30, .int 3, .ref a19, .int eo, .int en])), (a19, .inl (G.2.1.2, 90, .inr (.inl ef)))]) [0, 3, 1, 2] (by decide) rfl ?_
      exact sw_vret (pc := 52) F T ((f_X0_fill_o0_1 bo bp bm fl), (f_X0_fill_o0_4 bm fl), (f_X0_fill_o0_5 bp bs bm fl), eo, en, ef) ⟨(by unfold f_X6_fillBatch_o1_1; rw [if_neg c_1]), (by unfold f_X6_fillBatch_o1_4; rw [if_neg c_1]), (by unfold f_X6_fillBatch_o1_5; rw [if_neg c_1]), (by unfold f_X6_fillBatch_o2_3; rw [if_neg c_1, if_neg c_11]), (by unfold f_X6_fillBatch_o2_4; rw [if_neg c_1, if_neg c_11]), (by unfold f_X6_fillBatch_o3; rw [if_neg c_1, if_neg c_11])⟩ rfl dX6_fillBatch_52
    · skip
      refine sw_aload_n (pc := 31) F dX6_fillBatch_31 rfl 0 rfl ?_
      refine sw_iconst (pc := 32) (v := 4) F dX6_fillBatch_32 rfl ?_
      refine sw_aload_n (pc := 33) F dX6_fillBatch_33 rfl 0 rfl ?_
      refine sw_get (pc := 34) (Cn := RX6) (T := TX6) (N := 20) (ci := 6) (v := .ref a9) F in6 0 rfl rfl 14 (by decide) rfl (List.mem_of_getElem? (i := 1) rfl) rfl dX6_fillBatch_34 ?_
      refine sw_get (pc := 37) (Cn := RX0) (T := TX0) (N := 6) (ci := 0) (v := .long o_6) F in0 3 rfl rfl 4 (by decide) rfl (List.mem_of_getElem? (i := 4) rfl) rfl dX6_fillBatch_37 ?_
      refine sw_aload_n (pc := 40) F dX6_fillBatch_40 rfl 0 rfl ?_
      refine sw_get (pc := 41) (Cn := RX6) (T := TX6) (N := 20) (ci := 6) (v := .ref a9) F in6 0 rfl rfl 14 (by decide) rfl (List.mem_of_getElem? (i := 1) rfl) rfl dX6_fillBatch_41 ?_
      refine sw_get (pc := 44) (Cn := RX0) (T := TX0) (N := 6) (ci := 0) (v := .int bp) F in0 3 rfl rfl 2 (by decide) rfl (List.mem_of_getElem? (i := 5) rfl) rfl dX6_fillBatch_44 ?_
      refine sw_i2l (pc := 47) F dX6_fillBatch_47 rfl ?_
      refine sw_lsub (pc := 48) F dX6_fillBatch_48 ?_
      refine sw_topl (fun x_12 ex_12 => ?_)
      refine sw_callv (pc := 49) (wr := [(a9, .inr (0, [.int bd, .int o_5, .int bp, .int bs, .long o_6, .int o_7]))]) (k' := 0) (n' := 0) F (sw_runV (R := ({ frames := 3, cells := 0, slots := 0, locals := 70 } : Room)) (q0 := 0) (na := 2) F T.2.1 T.2.2.1 (k_X6_log l G h0 a1 a2 a3 a4 a5 a8 a9 a10 a13 a14 a15 a16 a19 tm ch rg hd df fl ms vo eo en ef 4 x_12) [0, 1, 2] rfl (by decide) gX6_fillBatch_X6_log rfl rfl rfl (by decide +kernel) ⟨Nat.le_of_ble_eq_true rfl, Nat.le_of_ble_eq_true rfl⟩ rfl rfl rfl rfl rfl (Nat.le_of_ble_eq_true rfl) dX6_fillBatch_49 (Nat.le_of_ble_eq_true rfl) (Nat.le_of_ble_eq_true rfl)) [0, 1, 2] [3] rfl rfl (by decide) (by decide) rfl rfl (fun u_14 h_15 => ?_)
      obtain ⟨o_16, o_17, o_18⟩ := u_14
      obtain ⟨e_19, e_20, e_21⟩ : o_16 = f_X6_log_o1_3 eo en ∧ o_17 = f_X6_log_o1_4 en ∧ o_18 = f_X6_log_o2 tm eo en ef 4 x_12 := h_15
      refine sw_eq (ws' := [(a9, .inr (0, [.int bd, .int o_5, .int bp, .int bs, .long o_6, .int o_7])), (h0, .inr (6, [.int tm, .int ch, .ref a1, .ref a2, .ref a3, .ref a4, .int rg, .int hd, .int df, .ref a5, .ref a8, .long fl, .long ms, .long vo, .ref a9, .ref a10, .ref a13, .ref a14, .ref a15, .ref a16])), (a16, .inr (4, [.int 30, .int 3, .ref a19, .int o_16, .int o_17])), (a19, .inl (G.2.1.2, 90, .inr (.inl o_18)))]) (lv' := [(0, .ref h0)]) (st' := []) rfl rfl rfl ?_
      subst e_21
      subst e_20
      subst e_19
      subst ex_12
      subst e_10
      subst e_9
      subst e_8
      refine sw_perm (ws' := [(h0, .inr (6, [.int tm, .int ch, .ref a1, .ref a2, .ref a3, .ref a4, .int rg, .int hd, .int df, .ref a5, .ref a8, .long fl, .long ms, .long vo, .ref a9, .ref a10, .ref a13, .ref a14, .ref a15, .ref a16])), (a9, .inr (0, [.int bd, .int ((f_X0_fill_o0_1 bo bp bm fl)), .int bp, .int bs, .long ((f_X0_fill_o0_4 bm fl)), .int ((f_X0_fill_o0_5 bp bs bm fl))])), (a16, .inr (4, [.int 30, .int 3, .ref a19, .int ((f_X6_log_o1_3 eo en)), .int ((f_X6_log_o1_4 en))])), (a19, .inl (G.2.1.2, 90, .inr (.inl ((f_X6_log_o2 tm eo en ef 4 ((f_X0_fill_o0_4 bm fl) - bp.toInt64))))))]) [1, 0, 2, 3] (by decide) rfl ?_
      exact sw_vret (pc := 52) F T ((f_X0_fill_o0_1 bo bp bm fl), (f_X0_fill_o0_4 bm fl), (f_X0_fill_o0_5 bp bs bm fl), (f_X6_log_o1_3 eo en), (f_X6_log_o1_4 en), (f_X6_log_o2 tm eo en ef 4 ((f_X0_fill_o0_4 bm fl) - bp.toInt64))) ⟨(by unfold f_X6_fillBatch_o1_1; rw [if_neg c_1]), (by unfold f_X6_fillBatch_o1_4; rw [if_neg c_1]), (by unfold f_X6_fillBatch_o1_5; rw [if_neg c_1]), (by unfold f_X6_fillBatch_o2_3; rw [if_neg c_1, if_pos c_11]), (by unfold f_X6_fillBatch_o2_4; rw [if_neg c_1, if_pos c_11]), (by unfold f_X6_fillBatch_o3; rw [if_neg c_1, if_pos c_11])⟩ rfl dX6_fillBatch_52
def f_X6_presentAlarms_r (hd : Int32) (tr : Int32) (ur : Int32) (vr : Int32) (wr : Int32) : Int32 := if hd ≤ 0 then (if (f_X8_isFaulty_r tr) = 0 then (if (f_X8_isFaulty_r ur) = 0 then (if (f_X8_isFaulty_r vr) = 0 then (if (f_X8_isFaulty_r wr) = 0 then (0) else ((0 ||| 8))) else (if (f_X8_isFaulty_r wr) = 0 then ((0 ||| 4)) else (((0 ||| 4) ||| 8)))) else (if (f_X8_isFaulty_r vr) = 0 then (if (f_X8_isFaulty_r wr) = 0 then ((0 ||| 2)) else (((0 ||| 2) ||| 8))) else (if (f_X8_isFaulty_r wr) = 0 then (((0 ||| 2) ||| 4)) else ((((0 ||| 2) ||| 4) ||| 8))))) else (if (f_X8_isFaulty_r ur) = 0 then (if (f_X8_isFaulty_r vr) = 0 then (if (f_X8_isFaulty_r wr) = 0 then ((0 ||| 1)) else (((0 ||| 1) ||| 8))) else (if (f_X8_isFaulty_r wr) = 0 then (((0 ||| 1) ||| 4)) else ((((0 ||| 1) ||| 4) ||| 8)))) else (if (f_X8_isFaulty_r vr) = 0 then (if (f_X8_isFaulty_r wr) = 0 then (((0 ||| 1) ||| 2)) else ((((0 ||| 1) ||| 2) ||| 8))) else (if (f_X8_isFaulty_r wr) = 0 then ((((0 ||| 1) ||| 2) ||| 4)) else (((((0 ||| 1) ||| 2) ||| 4) ||| 8)))))) else (if (f_X8_isFaulty_r tr) = 0 then (if (f_X8_isFaulty_r ur) = 0 then (if (f_X8_isFaulty_r vr) = 0 then (if (f_X8_isFaulty_r wr) = 0 then (16) else ((16 ||| 8))) else (if (f_X8_isFaulty_r wr) = 0 then ((16 ||| 4)) else (((16 ||| 4) ||| 8)))) else (if (f_X8_isFaulty_r vr) = 0 then (if (f_X8_isFaulty_r wr) = 0 then ((16 ||| 2)) else (((16 ||| 2) ||| 8))) else (if (f_X8_isFaulty_r wr) = 0 then (((16 ||| 2) ||| 4)) else ((((16 ||| 2) ||| 4) ||| 8))))) else (if (f_X8_isFaulty_r ur) = 0 then (if (f_X8_isFaulty_r vr) = 0 then (if (f_X8_isFaulty_r wr) = 0 then ((16 ||| 1)) else (((16 ||| 1) ||| 8))) else (if (f_X8_isFaulty_r wr) = 0 then (((16 ||| 1) ||| 4)) else ((((16 ||| 1) ||| 4) ||| 8)))) else (if (f_X8_isFaulty_r vr) = 0 then (if (f_X8_isFaulty_r wr) = 0 then (((16 ||| 1) ||| 2)) else ((((16 ||| 1) ||| 2) ||| 8))) else (if (f_X8_isFaulty_r wr) = 0 then ((((16 ||| 1) ||| 2) ||| 4)) else (((((16 ||| 1) ||| 2) ||| 4) ||| 8))))))
set_option maxHeartbeats 4000000 in
set_option maxRecDepth 100000 in
theorem k_X6_presentAlarms (l : Launch) (G : sw_E) (h0 : Nat) (a1 : Nat) (a2 : Nat) (a3 : Nat) (a4 : Nat) (a5 : Nat) (a8 : Nat) (a9 : Nat) (a10 : Nat) (a13 : Nat) (a14 : Nat) (a15 : Nat) (a16 : Nat) (tm : Int32) (ch : Int32) (rg : Int32) (hd : Int32) (df : Int32) (fl : Int64) (ms : Int64) (vo : Int64) (ts : Int32) (td : Int32) (tr : Int32) (tf : Int32) (tw : Int32) (us : Int32) (ud : Int32) (ur : Int32) (uf : Int32) (uw : Int32) (vs : Int32) (vd : Int32) (vr : Int32) (vf : Int32) (vw : Int32) (ws : Int32) (wd : Int32) (wr : Int32) (wf : Int32) (ww : Int32)  : sw_M l G yX6_presentAlarms wsX6_presentAlarms ({ frames := 1, cells := 0, slots := 0, locals := 21 } : Room) [.ref h0] [(h0, .inr (6, [.int tm, .int ch, .ref a1, .ref a2, .ref a3, .ref a4, .int rg, .int hd, .int df, .ref a5, .ref a8, .long fl, .long ms, .long vo, .ref a9, .ref a10, .ref a13, .ref a14, .ref a15, .ref a16])), (a1, .inr (8, [.int 0, .int ts, .int td, .int tr, .int tf, .int tw])), (a2, .inr (8, [.int 0, .int us, .int ud, .int ur, .int uf, .int uw])), (a3, .inr (8, [.int 0, .int vs, .int vd, .int vr, .int vf, .int vw])), (a4, .inr (8, [.int ((-500)), .int ws, .int wd, .int wr, .int wf, .int ww]))] (sw_QI G (S := Unit) (fun (r : Int32) (_ : Unit) => r = f_X6_presentAlarms_r hd tr ur vr wr) (fun _ => [(h0, .inr (6, [.int tm, .int ch, .ref a1, .ref a2, .ref a3, .ref a4, .int rg, .int hd, .int df, .ref a5, .ref a8, .long fl, .long ms, .long vo, .ref a9, .ref a10, .ref a13, .ref a14, .ref a15, .ref a16])), (a1, .inr (8, [.int 0, .int ts, .int td, .int tr, .int tf, .int tw])), (a2, .inr (8, [.int 0, .int us, .int ud, .int ur, .int uf, .int uw])), (a3, .inr (8, [.int 0, .int vs, .int vd, .int vr, .int vf, .int vw])), (a4, .inr (8, [.int ((-500)), .int ws, .int wd, .int wr, .int wf, .int ww]))])) 0 0 := by
  refine sw_start (cc := cX6_presentAlarms) (maxL := 3) (ret := some .int) (lv := [(0, .ref h0)]) (own := RX6) (nm := "presentAlarms") (by decide +kernel) rfl rfl rfl rfl (Nat.le_of_ble_eq_true rfl) (fun C F T => ?_)
  have in6 : ∀ w ∈ u_ws RX6 TX6 20, w ∈ wsX6_presentAlarms := fun w h => List.mem_cons_of_mem _ (List.mem_append_left _ (List.mem_append_right _ (h)))
  refine sw_aload_n (pc := 0) F dX6_presentAlarms_0 rfl 0 rfl ?_
  refine sw_get (pc := 1) (Cn := RX6) (T := TX6) (N := 20) (ci := 6) (v := .int hd) F in6 0 rfl rfl 7 (by decide) rfl (List.mem_of_getElem? (i := 1) rfl) rfl dX6_presentAlarms_1 ?_
  refine sw_if_le (pc := 4) (tgt := 12) F dX6_presentAlarms_4 (by decide) (fun c_1 => ?_) (fun c_1 => ?_)
  · skip
    refine sw_iconst (pc := 12) (v := 0) F dX6_presentAlarms_12 rfl ?_
    refine sw_istore_n (pc := 13) (lv' := [(1, .int 0), (0, .ref h0)]) F T.1 dX6_presentAlarms_13 rfl (by decide) rfl ?_
    refine sw_iconst (pc := 14) (v := 0) F dX6_presentAlarms_14 rfl ?_
    refine sw_istore_n (pc := 15) (lv' := [(2, .int 0), (1, .int 0), (0, .ref h0)]) F T.1 dX6_presentAlarms_15 rfl (by decide) rfl ?_
    refine sw_iload_n (pc := 16) F dX6_presentAlarms_16 rfl 0 rfl ?_
    refine sw_iconst (pc := 17) (v := 4) F dX6_presentAlarms_17 rfl ?_
    refine sw_icmp_ge (pc := 18) (tgt := 44) F dX6_presentAlarms_18 (by decide) (fun c => absurd c (by decide)) (fun _ => ?_)
    refine sw_aload_n (pc := 21) F dX6_presentAlarms_21 rfl 2 rfl ?_
    refine sw_iload_n (pc := 22) F dX6_presentAlarms_22 rfl 0 rfl ?_
    refine sw_callr (pc := 23) (wr := [(a1, .inr (8, [.int 0, .int ts, .int td, .int tr, .int tf, .int tw])), (a2, .inr (8, [.int 0, .int us, .int ud, .int ur, .int uf, .int uw])), (a3, .inr (8, [.int 0, .int vs, .int vd, .int vr, .int vf, .int vw])), (a4, .inr (8, [.int ((-500)), .int ws, .int wd, .int wr, .int wf, .int ww]))]) (k' := 0) (n' := 0) F (sw_runV (R := ({ frames := 1, cells := 0, slots := 0, locals := 21 } : Room)) (q0 := 0) (na := 1) F T.2.1 T.2.2.1 (k_X6_transmitterAt_0 l G h0 a1 a2 a3 a4 a5 a8 a9 a10 a13 a14 a15 a16 tm ch rg hd df fl ms vo) [0] rfl (by decide) gX6_presentAlarms_X6_transmitterAt rfl rfl rfl (by decide +kernel) ⟨Nat.le_of_ble_eq_true rfl, Nat.le_of_ble_eq_true rfl⟩ rfl rfl rfl rfl rfl (Nat.le_of_ble_eq_true rfl) dX6_presentAlarms_23 (Nat.le_of_ble_eq_true rfl) (Nat.le_of_ble_eq_true rfl)) [0] [1, 2, 3, 4] rfl rfl (by decide) (by decide) rfl rfl (fun r_2 u_3 h_4 => ?_)
    have e_5 : r_2 = a1 := h_4
    refine sw_eqt (v := .ref a1) (by rw [e_5]) ?_
    refine sw_eq (ws' := [(a1, .inr (8, [.int 0, .int ts, .int td, .int tr, .int tf, .int tw])), (a2, .inr (8, [.int 0, .int us, .int ud, .int ur, .int uf, .int uw])), (a3, .inr (8, [.int 0, .int vs, .int vd, .int vr, .int vf, .int vw])), (a4, .inr (8, [.int ((-500)), .int ws, .int wd, .int wr, .int wf, .int ww])), (h0, .inr (6, [.int tm, .int ch, .ref a1, .ref a2, .ref a3, .ref a4, .int rg, .int hd, .int df, .ref a5, .ref a8, .long fl, .long ms, .long vo, .ref a9, .ref a10, .ref a13, .ref a14, .ref a15, .ref a16]))]) (lv' := [(2, .int 0), (1, .int 0), (0, .ref h0)]) (st' := [.ref a1]) rfl rfl rfl ?_
    refine sw_calli (pc := 26) (wr := [(a2, .inr (8, [.int 0, .int us, .int ud, .int ur, .int uf, .int uw])), (a3, .inr (8, [.int 0, .int vs, .int vd, .int vr, .int vf, .int vw])), (a4, .inr (8, [.int ((-500)), .int ws, .int wd, .int wr, .int wf, .int ww])), (h0, .inr (6, [.int tm, .int ch, .ref a1, .ref a2, .ref a3, .ref a4, .int rg, .int hd, .int df, .ref a5, .ref a8, .long fl, .long ms, .long vo, .ref a9, .ref a10, .ref a13, .ref a14, .ref a15, .ref a16]))]) (k' := 0) (n' := 0) F (sw_runV (R := ({ frames := 1, cells := 0, slots := 0, locals := 21 } : Room)) (q0 := 0) (na := 0) F T.2.1 T.2.2.1 (k_X8_isFaulty l G a1 0 ts td tr tf tw) [0] rfl (by decide) gX6_presentAlarms_X8_isFaulty rfl rfl rfl (by decide +kernel) ⟨Nat.le_of_ble_eq_true rfl, Nat.le_of_ble_eq_true rfl⟩ rfl rfl rfl rfl rfl (Nat.le_of_ble_eq_true rfl) dX6_presentAlarms_26 (Nat.le_of_ble_eq_true rfl) (Nat.le_of_ble_eq_true rfl)) [0] [1, 2, 3, 4] rfl rfl (by decide) (by decide) rfl rfl (fun r_6 u_7 h_8 => ?_)
    have e_9 : r_6 = f_X8_isFaulty_r tr := h_8
    refine sw_eq (ws' := [(a2, .inr (8, [.int 0, .int us, .int ud, .int ur, .int uf, .int uw])), (a3, .inr (8, [.int 0, .int vs, .int vd, .int vr, .int vf, .int vw])), (a4, .inr (8, [.int ((-500)), .int ws, .int wd, .int wr, .int wf, .int ww])), (h0, .inr (6, [.int tm, .int ch, .ref a1, .ref a2, .ref a3, .ref a4, .int rg, .int hd, .int df, .ref a5, .ref a8, .long fl, .long ms, .long vo, .ref a9, .ref a10, .ref a13, .ref a14, .ref a15, .ref a16])), (a1, .inr (8, [.int 0, .int ts, .int td, .int tr, .int tf, .int tw]))]) (lv' := [(2, .int 0), (1, .int 0), (0, .ref h0)]) (st' := [.int r_6]) rfl rfl rfl ?_
    refine sw_if_eq (pc := 29) (tgt := 38) F dX6_presentAlarms_29 (by decide) (fun c_10 => ?_) (fun c_10 => ?_)
    · skip
      refine sw_iinc (pc := 38) (v := 1) (lv' := [(2, .int 1), (1, .int 0), (0, .ref h0)]) F T.1 dX6_presentAlarms_38 (q := 0) rfl rfl (by decide) rfl ?_
      refine sw_goto (pc := 41) (tgt := 16) F dX6_presentAlarms_41 (by decide) ?_
      refine sw_iload_n (pc := 16) F dX6_presentAlarms_16 rfl 0 rfl ?_
      refine sw_iconst (pc := 17) (v := 4) F dX6_presentAlarms_17 rfl ?_
      refine sw_icmp_ge (pc := 18) (tgt := 44) F dX6_presentAlarms_18 (by decide) (fun c => absurd c (by decide)) (fun _ => ?_)
      refine sw_aload_n (pc := 21) F dX6_presentAlarms_21 rfl 2 rfl ?_
      refine sw_iload_n (pc := 22) F dX6_presentAlarms_22 rfl 0 rfl ?_
      refine sw_callr (pc := 23) (wr := [(a2, .inr (8, [.int 0, .int us, .int ud, .int ur, .int uf, .int uw])), (a3, .inr (8, [.int 0, .int vs, .int vd, .int vr, .int vf, .int vw])), (a4, .inr (8, [.int ((-500)), .int ws, .int wd, .int wr, .int wf, .int ww])), (a1, .inr (8, [.int 0, .int ts, .int td, .int tr, .int tf, .int tw]))]) (k' := 0) (n' := 0) F (sw_runV (R := ({ frames := 1, cells := 0, slots := 0, locals := 21 } : Room)) (q0 := 0) (na := 1) F T.2.1 T.2.2.1 (k_X6_transmitterAt_1 l G h0 a1 a2 a3 a4 a5 a8 a9 a10 a13 a14 a15 a16 tm ch rg hd df fl ms vo) [3] rfl (by decide) gX6_presentAlarms_X6_transmitterAt rfl rfl rfl (by decide +kernel) ⟨Nat.le_of_ble_eq_true rfl, Nat.le_of_ble_eq_true rfl⟩ rfl rfl rfl rfl rfl (Nat.le_of_ble_eq_true rfl) dX6_presentAlarms_23 (Nat.le_of_ble_eq_true rfl) (Nat.le_of_ble_eq_true rfl)) [3] [0, 1, 2, 4] rfl rfl (by decide) (by decide) rfl rfl (fun r_11 u_12 h_13 => ?_)
      have e_14 : r_11 = a2 := h_13
      refine sw_eqt (v := .ref a2) (by rw [e_14]) ?_
      refine sw_eq (ws' := [(a2, .inr (8, [.int 0, .int us, .int ud, .int ur, .int uf, .int uw])), (a3, .inr (8, [.int 0, .int vs, .int vd, .int vr, .int vf, .int vw])), (a4, .inr (8, [.int ((-500)), .int ws, .int wd, .int wr, .int wf, .int ww])), (a1, .inr (8, [.int 0, .int ts, .int td, .int tr, .int tf, .int tw])), (h0, .inr (6, [.int tm, .int ch, .ref a1, .ref a2, .ref a3, .ref a4, .int rg, .int hd, .int df, .ref a5, .ref a8, .long fl, .long ms, .long vo, .ref a9, .ref a10, .ref a13, .ref a14, .ref a15, .ref a16]))]) (lv' := [(2, .int 1), (1, .int 0), (0, .ref h0)]) (st' := [.ref a2]) rfl rfl rfl ?_
      refine sw_calli (pc := 26) (wr := [(a3, .inr (8, [.int 0, .int vs, .int vd, .int vr, .int vf, .int vw])), (a4, .inr (8, [.int ((-500)), .int ws, .int wd, .int wr, .int wf, .int ww])), (a1, .inr (8, [.int 0, .int ts, .int td, .int tr, .int tf, .int tw])), (h0, .inr (6, [.int tm, .int ch, .ref a1, .ref a2, .ref a3, .ref a4, .int rg, .int hd, .int df, .ref a5, .ref a8, .long fl, .long ms, .long vo, .ref a9, .ref a10, .ref a13, .ref a14, .ref a15, .ref a16]))]) (k' := 0) (n' := 0) F (sw_runV (R := ({ frames := 1, cells := 0, slots := 0, locals := 21 } : Room)) (q0 := 0) (na := 0) F T.2.1 T.2.2.1 (k_X8_isFaulty l G a2 0 us ud ur uf uw) [0] rfl (by decide) gX6_presentAlarms_X8_isFaulty rfl rfl rfl (by decide +kernel) ⟨Nat.le_of_ble_eq_true rfl, Nat.le_of_ble_eq_true rfl⟩ rfl rfl rfl rfl rfl (Nat.le_of_ble_eq_true rfl) dX6_presentAlarms_26 (Nat.le_of_ble_eq_true rfl) (Nat.le_of_ble_eq_true rfl)) [0] [1, 2, 3, 4] rfl rfl (by decide) (by decide) rfl rfl (fun r_15 u_16 h_17 => ?_)
      have e_18 : r_15 = f_X8_isFaulty_r ur := h_17
      refine sw_eq (ws' := [(a3, .inr (8, [.int 0, .int vs, .int vd, .int vr, .int vf, .int vw])), (a4, .inr (8, [.int ((-500)), .int ws, .int wd, .int wr, .int wf, .int ww])), (a1, .inr (8, [.int 0, .int ts, .int td, .int tr, .int tf, .int tw])), (h0, .inr (6, [.int tm, .int ch, .ref a1, .ref a2, .ref a3, .ref a4, .int rg, .int hd, .int df, .ref a5, .ref a8, .long fl, .long ms, .long vo, .ref a9, .ref a10, .ref a13, .ref a14, .ref a15, .ref a16])), (a2, .inr (8, [.int 0, .int us, .int ud, .int ur, .int uf, .int uw]))]) (lv' := [(2, .int 1), (1, .int 0), (0, .ref h0)]) (st' := [.int r_15]) rfl rfl rfl ?_
      refine sw_if_eq (pc := 29) (tgt := 38) F dX6_presentAlarms_29 (by decide) (fun c_19 => ?_) (fun c_19 => ?_)
      · skip
        refine sw_iinc (pc := 38) (v := 2) (lv' := [(2, .int 2), (1, .int 0), (0, .ref h0)]) F T.1 dX6_presentAlarms_38 (q := 0) rfl rfl (by decide) rfl ?_
        refine sw_goto (pc := 41) (tgt := 16) F dX6_presentAlarms_41 (by decide) ?_
        refine sw_iload_n (pc := 16) F dX6_presentAlarms_16 rfl 0 rfl ?_
        refine sw_iconst (pc := 17) (v := 4) F dX6_presentAlarms_17 rfl ?_
        refine sw_icmp_ge (pc := 18) (tgt := 44) F dX6_presentAlarms_18 (by decide) (fun c => absurd c (by decide)) (fun _ => ?_)
        refine sw_aload_n (pc := 21) F dX6_presentAlarms_21 rfl 2 rfl ?_
        refine sw_iload_n (pc := 22) F dX6_presentAlarms_22 rfl 0 rfl ?_
        refine sw_callr (pc := 23) (wr := [(a3, .inr (8, [.int 0, .int vs, .int vd, .int vr, .int vf, .int vw])), (a4, .inr (8, [.int ((-500)), .int ws, .int wd, .int wr, .int wf, .int ww])), (a1, .inr (8, [.int 0, .int ts, .int td, .int tr, .int tf, .int tw])), (a2, .inr (8, [.int 0, .int us, .int ud, .int ur, .int uf, .int uw]))]) (k' := 0) (n' := 0) F (sw_runV (R := ({ frames := 1, cells := 0, slots := 0, locals := 21 } : Room)) (q0 := 0) (na := 1) F T.2.1 T.2.2.1 (k_X6_transmitterAt_2 l G h0 a1 a2 a3 a4 a5 a8 a9 a10 a13 a14 a15 a16 tm ch rg hd df fl ms vo) [3] rfl (by decide) gX6_presentAlarms_X6_transmitterAt rfl rfl rfl (by decide +kernel) ⟨Nat.le_of_ble_eq_true rfl, Nat.le_of_ble_eq_true rfl⟩ rfl rfl rfl rfl rfl (Nat.le_of_ble_eq_true rfl) dX6_presentAlarms_23 (Nat.le_of_ble_eq_true rfl) (Nat.le_of_ble_eq_true rfl)) [3] [0, 1, 2, 4] rfl rfl (by decide) (by decide) rfl rfl (fun r_20 u_21 h_22 => ?_)
        have e_23 : r_20 = a3 := h_22
        refine sw_eqt (v := .ref a3) (by rw [e_23]) ?_
        refine sw_eq (ws' := [(a3, .inr (8, [.int 0, .int vs, .int vd, .int vr, .int vf, .int vw])), (a4, .inr (8, [.int ((-500)), .int ws, .int wd, .int wr, .int wf, .int ww])), (a1, .inr (8, [.int 0, .int ts, .int td, .int tr, .int tf, .int tw])), (a2, .inr (8, [.int 0, .int us, .int ud, .int ur, .int uf, .int uw])), (h0, .inr (6, [.int tm, .int ch, .ref a1, .ref a2, .ref a3, .ref a4, .int rg, .int hd, .int df, .ref a5, .ref a8, .long fl, .long ms, .long vo, .ref a9, .ref a10, .ref a13, .ref a14, .ref a15, .ref a16]))]) (lv' := [(2, .int 2), (1, .int 0), (0, .ref h0)]) (st' := [.ref a3]) rfl rfl rfl ?_
        refine sw_calli (pc := 26) (wr := [(a4, .inr (8, [.int ((-500)), .int ws, .int wd, .int wr, .int wf, .int ww])), (a1, .inr (8, [.int 0, .int ts, .int td, .int tr, .int tf, .int tw])), (a2, .inr (8, [.int 0, .int us, .int ud, .int ur, .int uf, .int uw])), (h0, .inr (6, [.int tm, .int ch, .ref a1, .ref a2, .ref a3, .ref a4, .int rg, .int hd, .int df, .ref a5, .ref a8, .long fl, .long ms, .long vo, .ref a9, .ref a10, .ref a13, .ref a14, .ref a15, .ref a16]))]) (k' := 0) (n' := 0) F (sw_runV (R := ({ frames := 1, cells := 0, slots := 0, locals := 21 } : Room)) (q0 := 0) (na := 0) F T.2.1 T.2.2.1 (k_X8_isFaulty l G a3 0 vs vd vr vf vw) [0] rfl (by decide) gX6_presentAlarms_X8_isFaulty rfl rfl rfl (by decide +kernel) ⟨Nat.le_of_ble_eq_true rfl, Nat.le_of_ble_eq_true rfl⟩ rfl rfl rfl rfl rfl (Nat.le_of_ble_eq_true rfl) dX6_presentAlarms_26 (Nat.le_of_ble_eq_true rfl) (Nat.le_of_ble_eq_true rfl)) [0] [1, 2, 3, 4] rfl rfl (by decide) (by decide) rfl rfl (fun r_24 u_25 h_26 => ?_)
        have e_27 : r_24 = f_X8_isFaulty_r vr := h_26
        refine sw_eq (ws' := [(a4, .inr (8, [.int ((-500)), .int ws, .int wd, .int wr, .int wf, .int ww])), (a1, .inr (8, [.int 0, .int ts, .int td, .int tr, .int tf, .int tw])), (a2, .inr (8, [.int 0, .int us, .int ud, .int ur, .int uf, .int uw])), (h0, .inr (6, [.int tm, .int ch, .ref a1, .ref a2, .ref a3, .ref a4, .int rg, .int hd, .int df, .ref a5, .ref a8, .long fl, .long ms, .long vo, .ref a9, .ref a10, .ref a13, .ref a14, .ref a15, .ref a16])), (a3, .inr (8, [.int 0, .int vs, .int vd, .int vr, .int vf, .int vw]))]) (lv' := [(2, .int 2), (1, .int 0), (0, .ref h0)]) (st' := [.int r_24]) rfl rfl rfl ?_
        refine sw_if_eq (pc := 29) (tgt := 38) F dX6_presentAlarms_29 (by decide) (fun c_28 => ?_) (fun c_28 => ?_)
        · skip
          refine sw_iinc (pc := 38) (v := 3) (lv' := [(2, .int 3), (1, .int 0), (0, .ref h0)]) F T.1 dX6_presentAlarms_38 (q := 0) rfl rfl (by decide) rfl ?_
          refine sw_goto (pc := 41) (tgt := 16) F dX6_presentAlarms_41 (by decide) ?_
          refine sw_iload_n (pc := 16) F dX6_presentAlarms_16 rfl 0 rfl ?_
          refine sw_iconst (pc := 17) (v := 4) F dX6_presentAlarms_17 rfl ?_
          refine sw_icmp_ge (pc := 18) (tgt := 44) F dX6_presentAlarms_18 (by decide) (fun c => absurd c (by decide)) (fun _ => ?_)
          refine sw_aload_n (pc := 21) F dX6_presentAlarms_21 rfl 2 rfl ?_
          refine sw_iload_n (pc := 22) F dX6_presentAlarms_22 rfl 0 rfl ?_
          refine sw_callr (pc := 23) (wr := [(a4, .inr (8, [.int ((-500)), .int ws, .int wd, .int wr, .int wf, .int ww])), (a1, .inr (8, [.int 0, .int ts, .int td, .int tr, .int tf, .int tw])), (a2, .inr (8, [.int 0, .int us, .int ud, .int ur, .int uf, .int uw])), (a3, .inr (8, [.int 0, .int vs, .int vd, .int vr, .int vf, .int vw]))]) (k' := 0) (n' := 0) F (sw_runV (R := ({ frames := 1, cells := 0, slots := 0, locals := 21 } : Room)) (q0 := 0) (na := 1) F T.2.1 T.2.2.1 (k_X6_transmitterAt_3 l G h0 a1 a2 a3 a4 a5 a8 a9 a10 a13 a14 a15 a16 tm ch rg hd df fl ms vo) [3] rfl (by decide) gX6_presentAlarms_X6_transmitterAt rfl rfl rfl (by decide +kernel) ⟨Nat.le_of_ble_eq_true rfl, Nat.le_of_ble_eq_true rfl⟩ rfl rfl rfl rfl rfl (Nat.le_of_ble_eq_true rfl) dX6_presentAlarms_23 (Nat.le_of_ble_eq_true rfl) (Nat.le_of_ble_eq_true rfl)) [3] [0, 1, 2, 4] rfl rfl (by decide) (by decide) rfl rfl (fun r_29 u_30 h_31 => ?_)
          have e_32 : r_29 = a4 := h_31
          refine sw_eqt (v := .ref a4) (by rw [e_32]) ?_
          refine sw_eq (ws' := [(a4, .inr (8, [.int ((-500)), .int ws, .int wd, .int wr, .int wf, .int ww])), (a1, .inr (8, [.int 0, .int ts, .int td, .int tr, .int tf, .int tw])), (a2, .inr (8, [.int 0, .int us, .int ud, .int ur, .int uf, .int uw])), (a3, .inr (8, [.int 0, .int vs, .int vd, .int vr, .int vf, .int vw])), (h0, .inr (6, [.int tm, .int ch, .ref a1, .ref a2, .ref a3, .ref a4, .int rg, .int hd, .int df, .ref a5, .ref a8, .long fl, .long ms, .long vo, .ref a9, .ref a10, .ref a13, .ref a14, .ref a15, .ref a16]))]) (lv' := [(2, .int 3), (1, .int 0), (0, .ref h0)]) (st' := [.ref a4]) rfl rfl rfl ?_
          refine sw_calli (pc := 26) (wr := [(a1, .inr (8, [.int 0, .int ts, .int td, .int tr, .int tf, .int tw])), (a2, .inr (8, [.int 0, .int us, .int ud, .int ur, .int uf, .int uw])), (a3, .inr (8, [.int 0, .int vs, .int vd, .int vr, .int vf, .int vw])), (h0, .inr (6, [.int tm, .int ch, .ref a1, .ref a2, .ref a3, .ref a4, .int rg, .int hd, .int df, .ref a5, .ref a8, .long fl, .long ms, .long vo, .ref a9, .ref a10, .ref a13, .ref a14, .ref a15, .ref a16]))]) (k' := 0) (n' := 0) F (sw_runV (R := ({ frames := 1, cells := 0, slots := 0, locals := 21 } : Room)) (q0 := 0) (na := 0) F T.2.1 T.2.2.1 (k_X8_isFaulty l G a4 (-500) ws wd wr wf ww) [0] rfl (by decide) gX6_presentAlarms_X8_isFaulty rfl rfl rfl (by decide +kernel) ⟨Nat.le_of_ble_eq_true rfl, Nat.le_of_ble_eq_true rfl⟩ rfl rfl rfl rfl rfl (Nat.le_of_ble_eq_true rfl) dX6_presentAlarms_26 (Nat.le_of_ble_eq_true rfl) (Nat.le_of_ble_eq_true rfl)) [0] [1, 2, 3, 4] rfl rfl (by decide) (by decide) rfl rfl (fun r_33 u_34 h_35 => ?_)
          have e_36 : r_33 = f_X8_isFaulty_r wr := h_35
          refine sw_eq (ws' := [(a1, .inr (8, [.int 0, .int ts, .int td, .int tr, .int tf, .int tw])), (a2, .inr (8, [.int 0, .int us, .int ud, .int ur, .int uf, .int uw])), (a3, .inr (8, [.int 0, .int vs, .int vd, .int vr, .int vf, .int vw])), (h0, .inr (6, [.int tm, .int ch, .ref a1, .ref a2, .ref a3, .ref a4, .int rg, .int hd, .int df, .ref a5, .ref a8, .long fl, .long ms, .long vo, .ref a9, .ref a10, .ref a13, .ref a14, .ref a15, .ref a16])), (a4, .inr (8, [.int ((-500)), .int ws, .int wd, .int wr, .int wf, .int ww]))]) (lv' := [(2, .int 3), (1, .int 0), (0, .ref h0)]) (st' := [.int r_33]) rfl rfl rfl ?_
          refine sw_if_eq (pc := 29) (tgt := 38) F dX6_presentAlarms_29 (by decide) (fun c_37 => ?_) (fun c_37 => ?_)
          · skip
            refine sw_iinc (pc := 38) (v := 4) (lv' := [(2, .int 4), (1, .int 0), (0, .ref h0)]) F T.1 dX6_presentAlarms_38 (q := 0) rfl rfl (by decide) rfl ?_
            refine sw_goto (pc := 41) (tgt := 16) F dX6_presentAlarms_41 (by decide) ?_
            refine sw_iload_n (pc := 16) F dX6_presentAlarms_16 rfl 0 rfl ?_
            refine sw_iconst (pc := 17) (v := 4) F dX6_presentAlarms_17 rfl ?_
            refine sw_icmp_ge (pc := 18) (tgt := 44) F dX6_presentAlarms_18 (by decide) (fun _ => ?_) (fun c => absurd c (by decide))
            refine sw_iload_n (pc := 44) F dX6_presentAlarms_44 rfl 1 rfl ?_
            subst e_36
            subst e_27
            subst e_18
            subst e_9
            refine sw_perm (ws' := [(h0, .inr (6, [.int tm, .int ch, .ref a1, .ref a2, .ref a3, .ref a4, .int rg, .int hd, .int df, .ref a5, .ref a8, .long fl, .long ms, .long vo, .ref a9, .ref a10, .ref a13, .ref a14, .ref a15, .ref a16])), (a1, .inr (8, [.int 0, .int ts, .int td, .int tr, .int tf, .int tw])), (a2, .inr (8, [.int 0, .int us, .int ud, .int ur, .int uf, .int uw])), (a3, .inr (8, [.int 0, .int vs, .int vd, .int vr, .int vf, .int vw])), (a4, .inr (8, [.int ((-500)), .int ws, .int wd, .int wr, .int wf, .int ww]))]) [3, 0, 1, 2, 4] (by decide) rfl ?_
            exact sw_iret (pc := 45) F T rfl rfl () (by unfold f_X6_presentAlarms_r; rw [if_pos c_1, if_pos c_10, if_pos c_19, if_pos c_28, if_pos c_37]) rfl dX6_presentAlarms_45
          · skip
            refine sw_iload_n (pc := 32) F dX6_presentAlarms_32 rfl 1 rfl ?_
            refine sw_iconst (pc := 33) (v := 1) F dX6_presentAlarms_33 rfl ?_
            refine sw_iload_n (pc := 34) F dX6_presentAlarms_34 rfl 0 rfl ?_
            refine sw_ishl (pc := 35) F dX6_presentAlarms_35 ?_
            refine sw_eqt (v := .int 8) (by rfl) ?_
            refine sw_ior (pc := 36) F dX6_presentAlarms_36 ?_
            refine sw_topi (fun x_38 ex_38 => ?_)
            refine sw_istore_n (pc := 37) (lv' := [(1, .int x_38), (2, .int 3), (0, .ref h0)]) F T.1 dX6_presentAlarms_37 rfl (by decide) rfl ?_
            refine sw_iinc (pc := 38) (v := 4) (lv' := [(2, .int 4), (1, .int x_38), (0, .ref h0)]) F T.1 dX6_presentAlarms_38 (q := 1) rfl rfl (by decide) rfl ?_
            refine sw_goto (pc := 41) (tgt := 16) F dX6_presentAlarms_41 (by decide) ?_
            refine sw_iload_n (pc := 16) F dX6_presentAlarms_16 rfl 0 rfl ?_
            refine sw_iconst (pc := 17) (v := 4) F dX6_presentAlarms_17 rfl ?_
            refine sw_icmp_ge (pc := 18) (tgt := 44) F dX6_presentAlarms_18 (by decide) (fun _ => ?_) (fun c => absurd c (by decide))
            refine sw_iload_n (pc := 44) F dX6_presentAlarms_44 rfl 1 rfl ?_
            subst ex_38
            subst e_36
            subst e_27
            subst e_18
            subst e_9
            refine sw_perm (ws' := [(h0, .inr (6, [.int tm, .int ch, .ref a1, .ref a2, .ref a3, .ref a4, .int rg, .int hd, .int df, .ref a5, .ref a8, .long fl, .long ms, .long vo, .ref a9, .ref a10, .ref a13, .ref a14, .ref a15, .ref a16])), (a1, .inr (8, [.int 0, .int ts, .int td, .int tr, .int tf, .int tw])), (a2, .inr (8, [.int 0, .int us, .int ud, .int ur, .int uf, .int uw])), (a3, .inr (8, [.int 0, .int vs, .int vd, .int vr, .int vf, .int vw])), (a4, .inr (8, [.int ((-500)), .int ws, .int wd, .int wr, .int wf, .int ww]))]) [3, 0, 1, 2, 4] (by decide) rfl ?_
            exact sw_iret (pc := 45) F T rfl rfl () (by unfold f_X6_presentAlarms_r; rw [if_pos c_1, if_pos c_10, if_pos c_19, if_pos c_28, if_neg c_37]) rfl dX6_presentAlarms_45
        · skip
          refine sw_iload_n (pc := 32) F dX6_presentAlarms_32 rfl 1 rfl ?_
          refine sw_iconst (pc := 33) (v := 1) F dX6_presentAlarms_33 rfl ?_
          refine sw_iload_n (pc := 34) F dX6_presentAlarms_34 rfl 0 rfl ?_
          refine sw_ishl (pc := 35) F dX6_presentAlarms_35 ?_
          refine sw_eqt (v := .int 4) (by rfl) ?_
          refine sw_ior (pc := 36) F dX6_presentAlarms_36 ?_
          refine sw_topi (fun x_39 ex_39 => ?_)
          refine sw_istore_n (pc := 37) (lv' := [(1, .int x_39), (2, .int 2), (0, .ref h0)]) F T.1 dX6_presentAlarms_37 rfl (by decide) rfl ?_
          refine sw_iinc (pc := 38) (v := 3) (lv' := [(2, .int 3), (1, .int x_39), (0, .ref h0)]) F T.1 dX6_presentAlarms_38 (q := 1) rfl rfl (by decide) rfl ?_
          refine sw_goto (pc := 41) (tgt := 16) F dX6_presentAlarms_41 (by decide) ?_
          refine sw_iload_n (pc := 16) F dX6_presentAlarms_16 rfl 0 rfl ?_
          refine sw_iconst (pc := 17) (v := 4) F dX6_presentAlarms_17 rfl ?_
          refine sw_icmp_ge (pc := 18) (tgt := 44) F dX6_presentAlarms_18 (by decide) (fun c => absurd c (by decide)) (fun _ => ?_)
          refine sw_aload_n (pc := 21) F dX6_presentAlarms_21 rfl 2 rfl ?_
          refine sw_iload_n (pc := 22) F dX6_presentAlarms_22 rfl 0 rfl ?_
          refine sw_callr (pc := 23) (wr := [(a4, .inr (8, [.int ((-500)), .int ws, .int wd, .int wr, .int wf, .int ww])), (a1, .inr (8, [.int 0, .int ts, .int td, .int tr, .int tf, .int tw])), (a2, .inr (8, [.int 0, .int us, .int ud, .int ur, .int uf, .int uw])), (a3, .inr (8, [.int 0, .int vs, .int vd, .int vr, .int vf, .int vw]))]) (k' := 0) (n' := 0) F (sw_runV (R := ({ frames := 1, cells := 0, slots := 0, locals := 21 } : Room)) (q0 := 0) (na := 1) F T.2.1 T.2.2.1 (k_X6_transmitterAt_3 l G h0 a1 a2 a3 a4 a5 a8 a9 a10 a13 a14 a15 a16 tm ch rg hd df fl ms vo) [3] rfl (by decide) gX6_presentAlarms_X6_transmitterAt rfl rfl rfl (by decide +kernel) ⟨Nat.le_of_ble_eq_true rfl, Nat.le_of_ble_eq_true rfl⟩ rfl rfl rfl rfl rfl (Nat.le_of_ble_eq_true rfl) dX6_presentAlarms_23 (Nat.le_of_ble_eq_true rfl) (Nat.le_of_ble_eq_true rfl)) [3] [0, 1, 2, 4] rfl rfl (by decide) (by decide) rfl rfl (fun r_40 u_41 h_42 => ?_)
          have e_43 : r_40 = a4 := h_42
          refine sw_eqt (v := .ref a4) (by rw [e_43]) ?_
          refine sw_eq (ws' := [(a4, .inr (8, [.int ((-500)), .int ws, .int wd, .int wr, .int wf, .int ww])), (a1, .inr (8, [.int 0, .int ts, .int td, .int tr, .int tf, .int tw])), (a2, .inr (8, [.int 0, .int us, .int ud, .int ur, .int uf, .int uw])), (a3, .inr (8, [.int 0, .int vs, .int vd, .int vr, .int vf, .int vw])), (h0, .inr (6, [.int tm, .int ch, .ref a1, .ref a2, .ref a3, .ref a4, .int rg, .int hd, .int df, .ref a5, .ref a8, .long fl, .long ms, .long vo, .ref a9, .ref a10, .ref a13, .ref a14, .ref a15, .ref a16]))]) (lv' := [(2, .int 3), (1, .int x_39), (0, .ref h0)]) (st' := [.ref a4]) rfl rfl rfl ?_
          refine sw_calli (pc := 26) (wr := [(a1, .inr (8, [.int 0, .int ts, .int td, .int tr, .int tf, .int tw])), (a2, .inr (8, [.int 0, .int us, .int ud, .int ur, .int uf, .int uw])), (a3, .inr (8, [.int 0, .int vs, .int vd, .int vr, .int vf, .int vw])), (h0, .inr (6, [.int tm, .int ch, .ref a1, .ref a2, .ref a3, .ref a4, .int rg, .int hd, .int df, .ref a5, .ref a8, .long fl, .long ms, .long vo, .ref a9, .ref a10, .ref a13, .ref a14, .ref a15, .ref a16]))]) (k' := 0) (n' := 0) F (sw_runV (R := ({ frames := 1, cells := 0, slots := 0, locals := 21 } : Room)) (q0 := 0) (na := 0) F T.2.1 T.2.2.1 (k_X8_isFaulty l G a4 (-500) ws wd wr wf ww) [0] rfl (by decide) gX6_presentAlarms_X8_isFaulty rfl rfl rfl (by decide +kernel) ⟨Nat.le_of_ble_eq_true rfl, Nat.le_of_ble_eq_true rfl⟩ rfl rfl rfl rfl rfl (Nat.le_of_ble_eq_true rfl) dX6_presentAlarms_26 (Nat.le_of_ble_eq_true rfl) (Nat.le_of_ble_eq_true rfl)) [0] [1, 2, 3, 4] rfl rfl (by decide) (by decide) rfl rfl (fun r_44 u_45 h_46 => ?_)
          have e_47 : r_44 = f_X8_isFaulty_r wr := h_46
          refine sw_eq (ws' := [(a1, .inr (8, [.int 0, .int ts, .int td, .int tr, .int tf, .int tw])), (a2, .inr (8, [.int 0, .int us, .int ud, .int ur, .int uf, .int uw])), (a3, .inr (8, [.int 0, .int vs, .int vd, .int vr, .int vf, .int vw])), (h0, .inr (6, [.int tm, .int ch, .ref a1, .ref a2, .ref a3, .ref a4, .int rg, .int hd, .int df, .ref a5, .ref a8, .long fl, .long ms, .long vo, .ref a9, .ref a10, .ref a13, .ref a14, .ref a15, .ref a16])), (a4, .inr (8, [.int ((-500)), .int ws, .int wd, .int wr, .int wf, .int ww]))]) (lv' := [(2, .int 3), (1, .int x_39), (0, .ref h0)]) (st' := [.int r_44]) rfl rfl rfl ?_
          refine sw_if_eq (pc := 29) (tgt := 38) F dX6_presentAlarms_29 (by decide) (fun c_48 => ?_) (fun c_48 => ?_)
          · skip
            refine sw_iinc (pc := 38) (v := 4) (lv' := [(2, .int 4), (1, .int x_39), (0, .ref h0)]) F T.1 dX6_presentAlarms_38 (q := 0) rfl rfl (by decide) rfl ?_
            refine sw_goto (pc := 41) (tgt := 16) F dX6_presentAlarms_41 (by decide) ?_
            refine sw_iload_n (pc := 16) F dX6_presentAlarms_16 rfl 0 rfl ?_
            refine sw_iconst (pc := 17) (v := 4) F dX6_presentAlarms_17 rfl ?_
            refine sw_icmp_ge (pc := 18) (tgt := 44) F dX6_presentAlarms_18 (by decide) (fun _ => ?_) (fun c => absurd c (by decide))
            refine sw_iload_n (pc := 44) F dX6_presentAlarms_44 rfl 1 rfl ?_
            subst e_47
            subst ex_39
            subst e_27
            subst e_18
            subst e_9
            refine sw_perm (ws' := [(h0, .inr (6, [.int tm, .int ch, .ref a1, .ref a2, .ref a3, .ref a4, .int rg, .int hd, .int df, .ref a5, .ref a8, .long fl, .long ms, .long vo, .ref a9, .ref a10, .ref a13, .ref a14, .ref a15, .ref a16])), (a1, .inr (8, [.int 0, .int ts, .int td, .int tr, .int tf, .int tw])), (a2, .inr (8, [.int 0, .int us, .int ud, .int ur, .int uf, .int uw])), (a3, .inr (8, [.int 0, .int vs, .int vd, .int vr, .int vf, .int vw])), (a4, .inr (8, [.int ((-500)), .int ws, .int wd, .int wr, .int wf, .int ww]))]) [3, 0, 1, 2, 4] (by decide) rfl ?_
            exact sw_iret (pc := 45) F T rfl rfl () (by unfold f_X6_presentAlarms_r; rw [if_pos c_1, if_pos c_10, if_pos c_19, if_neg c_28, if_pos c_48]) rfl dX6_presentAlarms_45
          · skip
            refine sw_iload_n (pc := 32) F dX6_presentAlarms_32 rfl 1 rfl ?_
            refine sw_iconst (pc := 33) (v := 1) F dX6_presentAlarms_33 rfl ?_
            refine sw_iload_n (pc := 34) F dX6_presentAlarms_34 rfl 0 rfl ?_
            refine sw_ishl (pc := 35) F dX6_presentAlarms_35 ?_
            refine sw_eqt (v := .int 8) (by rfl) ?_
            refine sw_ior (pc := 36) F dX6_presentAlarms_36 ?_
            refine sw_topi (fun x_49 ex_49 => ?_)
            refine sw_istore_n (pc := 37) (lv' := [(1, .int x_49), (2, .int 3), (0, .ref h0)]) F T.1 dX6_presentAlarms_37 rfl (by decide) rfl ?_
            refine sw_iinc (pc := 38) (v := 4) (lv' := [(2, .int 4), (1, .int x_49), (0, .ref h0)]) F T.1 dX6_presentAlarms_38 (q := 1) rfl rfl (by decide) rfl ?_
            refine sw_goto (pc := 41) (tgt := 16) F dX6_presentAlarms_41 (by decide) ?_
            refine sw_iload_n (pc := 16) F dX6_presentAlarms_16 rfl 0 rfl ?_
            refine sw_iconst (pc := 17) (v := 4) F dX6_presentAlarms_17 rfl ?_
            refine sw_icmp_ge (pc := 18) (tgt := 44) F dX6_presentAlarms_18 (by decide) (fun _ => ?_) (fun c => absurd c (by decide))
            refine sw_iload_n (pc := 44) F dX6_presentAlarms_44 rfl 1 rfl ?_
            subst ex_49
            subst e_47
            subst ex_39
            subst e_27
            subst e_18
            subst e_9
            refine sw_perm (ws' := [(h0, .inr (6, [.int tm, .int ch, .ref a1, .ref a2, .ref a3, .ref a4, .int rg, .int hd, .int df, .ref a5, .ref a8, .long fl, .long ms, .long vo, .ref a9, .ref a10, .ref a13, .ref a14, .ref a15, .ref a16])), (a1, .inr (8, [.int 0, .int ts, .int td, .int tr, .int tf, .int tw])), (a2, .inr (8, [.int 0, .int us, .int ud, .int ur, .int uf, .int uw])), (a3, .inr (8, [.int 0, .int vs, .int vd, .int vr, .int vf, .int vw])), (a4, .inr (8, [.int ((-500)), .int ws, .int wd, .int wr, .int wf, .int ww]))]) [3, 0, 1, 2, 4] (by decide) rfl ?_
            exact sw_iret (pc := 45) F T rfl rfl () (by unfold f_X6_presentAlarms_r; rw [if_pos c_1, if_pos c_10, if_pos c_19, if_neg c_28, if_neg c_48]) rfl dX6_presentAlarms_45
      · skip
        refine sw_iload_n (pc := 32) F dX6_presentAlarms_32 rfl 1 rfl ?_
        refine sw_iconst (pc := 33) (v := 1) F dX6_presentAlarms_33 rfl ?_
        refine sw_iload_n (pc := 34) F dX6_presentAlarms_34 rfl 0 rfl ?_
        refine sw_ishl (pc := 35) F dX6_presentAlarms_35 ?_
        refine sw_eqt (v := .int 2) (by rfl) ?_
        refine sw_ior (pc := 36) F dX6_presentAlarms_36 ?_
        refine sw_topi (fun x_50 ex_50 => ?_)
        refine sw_istore_n (pc := 37) (lv' := [(1, .int x_50), (2, .int 1), (0, .ref h0)]) F T.1 dX6_presentAlarms_37 rfl (by decide) rfl ?_
        refine sw_iinc (pc := 38) (v := 2) (lv' := [(2, .int 2), (1, .int x_50), (0, .ref h0)]) F T.1 dX6_presentAlarms_38 (q := 1) rfl rfl (by decide) rfl ?_
        refine sw_goto (pc := 41) (tgt := 16) F dX6_presentAlarms_41 (by decide) ?_
        refine sw_iload_n (pc := 16) F dX6_presentAlarms_16 rfl 0 rfl ?_
        refine sw_iconst (pc := 17) (v := 4) F dX6_presentAlarms_17 rfl ?_
        refine sw_icmp_ge (pc := 18) (tgt := 44) F dX6_presentAlarms_18 (by decide) (fun c => absurd c (by decide)) (fun _ => ?_)
        refine sw_aload_n (pc := 21) F dX6_presentAlarms_21 rfl 2 rfl ?_
        refine sw_iload_n (pc := 22) F dX6_presentAlarms_22 rfl 0 rfl ?_
        refine sw_callr (pc := 23) (wr := [(a3, .inr (8, [.int 0, .int vs, .int vd, .int vr, .int vf, .int vw])), (a4, .inr (8, [.int ((-500)), .int ws, .int wd, .int wr, .int wf, .int ww])), (a1, .inr (8, [.int 0, .int ts, .int td, .int tr, .int tf, .int tw])), (a2, .inr (8, [.int 0, .int us, .int ud, .int ur, .int uf, .int uw]))]) (k' := 0) (n' := 0) F (sw_runV (R := ({ frames := 1, cells := 0, slots := 0, locals := 21 } : Room)) (q0 := 0) (na := 1) F T.2.1 T.2.2.1 (k_X6_transmitterAt_2 l G h0 a1 a2 a3 a4 a5 a8 a9 a10 a13 a14 a15 a16 tm ch rg hd df fl ms vo) [3] rfl (by decide) gX6_presentAlarms_X6_transmitterAt rfl rfl rfl (by decide +kernel) ⟨Nat.le_of_ble_eq_true rfl, Nat.le_of_ble_eq_true rfl⟩ rfl rfl rfl rfl rfl (Nat.le_of_ble_eq_true rfl) dX6_presentAlarms_23 (Nat.le_of_ble_eq_true rfl) (Nat.le_of_ble_eq_true rfl)) [3] [0, 1, 2, 4] rfl rfl (by decide) (by decide) rfl rfl (fun r_51 u_52 h_53 => ?_)
        have e_54 : r_51 = a3 := h_53
        refine sw_eqt (v := .ref a3) (by rw [e_54]) ?_
        refine sw_eq (ws' := [(a3, .inr (8, [.int 0, .int vs, .int vd, .int vr, .int vf, .int vw])), (a4, .inr (8, [.int ((-500)), .int ws, .int wd, .int wr, .int wf, .int ww])), (a1, .inr (8, [.int 0, .int ts, .int td, .int tr, .int tf, .int tw])), (a2, .inr (8, [.int 0, .int us, .int ud, .int ur, .int uf, .int uw])), (h0, .inr (6, [.int tm, .int ch, .ref a1, .ref a2, .ref a3, .ref a4, .int rg, .int hd, .int df, .ref a5, .ref a8, .long fl, .long ms, .long vo, .ref a9, .ref a10, .ref a13, .ref a14, .ref a15, .ref a16]))]) (lv' := [(2, .int 2), (1, .int x_50), (0, .ref h0)]) (st' := [.ref a3]) rfl rfl rfl ?_
        refine sw_calli (pc := 26) (wr := [(a4, .inr (8, [.int ((-500)), .int ws, .int wd, .int wr, .int wf, .int ww])), (a1, .inr (8, [.int 0, .int ts, .int td, .int tr, .int tf, .int tw])), (a2, .inr (8, [.int 0, .int us, .int ud, .int ur, .int uf, .int uw])), (h0, .inr (6, [.int tm, .int ch, .ref a1, .ref a2, .ref a3, .ref a4, .int rg, .int hd, .int df, .ref a5, .ref a8, .long fl, .long ms, .long vo, .ref a9, .ref a10, .ref a13, .ref a14, .ref a15, .ref a16]))]) (k' := 0) (n' := 0) F (sw_runV (R := ({ frames := 1, cells := 0, slots := 0, locals := 21 } : Room)) (q0 := 0) (na := 0) F T.2.1 T.2.2.1 (k_X8_isFaulty l G a3 0 vs vd vr vf vw) [0] rfl (by decide) gX6_presentAlarms_X8_isFaulty rfl rfl rfl (by decide +kernel) ⟨Nat.le_of_ble_eq_true rfl, Nat.le_of_ble_eq_true rfl⟩ rfl rfl rfl rfl rfl (Nat.le_of_ble_eq_true rfl) dX6_presentAlarms_26 (Nat.le_of_ble_eq_true rfl) (Nat.le_of_ble_eq_true rfl)) [0] [1, 2, 3, 4] rfl rfl (by decide) (by decide) rfl rfl (fun r_55 u_56 h_57 => ?_)
        have e_58 : r_55 = f_X8_isFaulty_r vr := h_57
        refine sw_eq (ws' := [(a4, .inr (8, [.int ((-500)), .int ws, .int wd, .int wr, .int wf, .int ww])), (a1, .inr (8, [.int 0, .int ts, .int td, .int tr, .int tf, .int tw])), (a2, .inr (8, [.int 0, .int us, .int ud, .int ur, .int uf, .int uw])), (h0, .inr (6, [.int tm, .int ch, .ref a1, .ref a2, .ref a3, .ref a4, .int rg, .int hd, .int df, .ref a5, .ref a8, .long fl, .long ms, .long vo, .ref a9, .ref a10, .ref a13, .ref a14, .ref a15, .ref a16])), (a3, .inr (8, [.int 0, .int vs, .int vd, .int vr, .int vf, .int vw]))]) (lv' := [(2, .int 2), (1, .int x_50), (0, .ref h0)]) (st' := [.int r_55]) rfl rfl rfl ?_
        refine sw_if_eq (pc := 29) (tgt := 38) F dX6_presentAlarms_29 (by decide) (fun c_59 => ?_) (fun c_59 => ?_)
        · skip
          refine sw_iinc (pc := 38) (v := 3) (lv' := [(2, .int 3), (1, .int x_50), (0, .ref h0)]) F T.1 dX6_presentAlarms_38 (q := 0) rfl rfl (by decide) rfl ?_
          refine sw_goto (pc := 41) (tgt := 16) F dX6_presentAlarms_41 (by decide) ?_
          refine sw_iload_n (pc := 16) F dX6_presentAlarms_16 rfl 0 rfl ?_
          refine sw_iconst (pc := 17) (v := 4) F dX6_presentAlarms_17 rfl ?_
          refine sw_icmp_ge (pc := 18) (tgt := 44) F dX6_presentAlarms_18 (by decide) (fun c => absurd c (by decide)) (fun _ => ?_)
          refine sw_aload_n (pc := 21) F dX6_presentAlarms_21 rfl 2 rfl ?_
          refine sw_iload_n (pc := 22) F dX6_presentAlarms_22 rfl 0 rfl ?_
          refine sw_callr (pc := 23) (wr := [(a4, .inr (8, [.int ((-500)), .int ws, .int wd, .int wr, .int wf, .int ww])), (a1, .inr (8, [.int 0, .int ts, .int td, .int tr, .int tf, .int tw])), (a2, .inr (8, [.int 0, .int us, .int ud, .int ur, .int uf, .int uw])), (a3, .inr (8, [.int 0, .int vs, .int vd, .int vr, .int vf, .int vw]))]) (k' := 0) (n' := 0) F (sw_runV (R := ({ frames := 1, cells := 0, slots := 0, locals := 21 } : Room)) (q0 := 0) (na := 1) F T.2.1 T.2.2.1 (k_X6_transmitterAt_3 l G h0 a1 a2 a3 a4 a5 a8 a9 a10 a13 a14 a15 a16 tm ch rg hd df fl ms vo) [3] rfl (by decide) gX6_presentAlarms_X6_transmitterAt rfl rfl rfl (by decide +kernel) ⟨Nat.le_of_ble_eq_true rfl, Nat.le_of_ble_eq_true rfl⟩ rfl rfl rfl rfl rfl (Nat.le_of_ble_eq_true rfl) dX6_presentAlarms_23 (Nat.le_of_ble_eq_true rfl) (Nat.le_of_ble_eq_true rfl)) [3] [0, 1, 2, 4] rfl rfl (by decide) (by decide) rfl rfl (fun r_60 u_61 h_62 => ?_)
          have e_63 : r_60 = a4 := h_62
          refine sw_eqt (v := .ref a4) (by rw [e_63]) ?_
          refine sw_eq (ws' := [(a4, .inr (8, [.int ((-500)), .int ws, .int wd, .int wr, .int wf, .int ww])), (a1, .inr (8, [.int 0, .int ts, .int td, .int tr, .int tf, .int tw])), (a2, .inr (8, [.int 0, .int us, .int ud, .int ur, .int uf, .int uw])), (a3, .inr (8, [.int 0, .int vs, .int vd, .int vr, .int vf, .int vw])), (h0, .inr (6, [.int tm, .int ch, .ref a1, .ref a2, .ref a3, .ref a4, .int rg, .int hd, .int df, .ref a5, .ref a8, .long fl, .long ms, .long vo, .ref a9, .ref a10, .ref a13, .ref a14, .ref a15, .ref a16]))]) (lv' := [(2, .int 3), (1, .int x_50), (0, .ref h0)]) (st' := [.ref a4]) rfl rfl rfl ?_
          refine sw_calli (pc := 26) (wr := [(a1, .inr (8, [.int 0, .int ts, .int td, .int tr, .int tf, .int tw])), (a2, .inr (8, [.int 0, .int us, .int ud, .int ur, .int uf, .int uw])), (a3, .inr (8, [.int 0, .int vs, .int vd, .int vr, .int vf, .int vw])), (h0, .inr (6, [.int tm, .int ch, .ref a1, .ref a2, .ref a3, .ref a4, .int rg, .int hd, .int df, .ref a5, .ref a8, .long fl, .long ms, .long vo, .ref a9, .ref a10, .ref a13, .ref a14, .ref a15, .ref a16]))]) (k' := 0) (n' := 0) F (sw_runV (R := ({ frames := 1, cells := 0, slots := 0, locals := 21 } : Room)) (q0 := 0) (na := 0) F T.2.1 T.2.2.1 (k_X8_isFaulty l G a4 (-500) ws wd wr wf ww) [0] rfl (by decide) gX6_presentAlarms_X8_isFaulty rfl rfl rfl (by decide +kernel) ⟨Nat.le_of_ble_eq_true rfl, Nat.le_of_ble_eq_true rfl⟩ rfl rfl rfl rfl rfl (Nat.le_of_ble_eq_true rfl) dX6_presentAlarms_26 (Nat.le_of_ble_eq_true rfl) (Nat.le_of_ble_eq_true rfl)) [0] [1, 2, 3, 4] rfl rfl (by decide) (by decide) rfl rfl (fun r_64 u_65 h_66 => ?_)
          have e_67 : r_64 = f_X8_isFaulty_r wr := h_66
          refine sw_eq (ws' := [(a1, .inr (8, [.int 0, .int ts, .int td, .int tr, .int tf, .int tw])), (a2, .inr (8, [.int 0, .int us, .int ud, .int ur, .int uf, .int uw])), (a3, .inr (8, [.int 0, .int vs, .int vd, .int vr, .int vf, .int vw])), (h0, .inr (6, [.int tm, .int ch, .ref a1, .ref a2, .ref a3, .ref a4, .int rg, .int hd, .int df, .ref a5, .ref a8, .long fl, .long ms, .long vo, .ref a9, .ref a10, .ref a13, .ref a14, .ref a15, .ref a16])), (a4, .inr (8, [.int ((-500)), .int ws, .int wd, .int wr, .int wf, .int ww]))]) (lv' := [(2, .int 3), (1, .int x_50), (0, .ref h0)]) (st' := [.int r_64]) rfl rfl rfl ?_
          refine sw_if_eq (pc := 29) (tgt := 38) F dX6_presentAlarms_29 (by decide) (fun c_68 => ?_) (fun c_68 => ?_)
          · skip
            refine sw_iinc (pc := 38) (v := 4) (lv' := [(2, .int 4), (1, .int x_50), (0, .ref h0)]) F T.1 dX6_presentAlarms_38 (q := 0) rfl rfl (by decide) rfl ?_
            refine sw_goto (pc := 41) (tgt := 16) F dX6_presentAlarms_41 (by decide) ?_
            refine sw_iload_n (pc := 16) F dX6_presentAlarms_16 rfl 0 rfl ?_
            refine sw_iconst (pc := 17) (v := 4) F dX6_presentAlarms_17 rfl ?_
            refine sw_icmp_ge (pc := 18) (tgt := 44) F dX6_presentAlarms_18 (by decide) (fun _ => ?_) (fun c => absurd c (by decide))
            refine sw_iload_n (pc := 44) F dX6_presentAlarms_44 rfl 1 rfl ?_
            subst e_67
            subst e_58
            subst ex_50
            subst e_18
            subst e_9
            refine sw_perm (ws' := [(h0, .inr (6, [.int tm, .int ch, .ref a1, .ref a2, .ref a3, .ref a4, .int rg, .int hd, .int df, .ref a5, .ref a8, .long fl, .long ms, .long vo, .ref a9, .ref a10, .ref a13, .ref a14, .ref a15, .ref a16])), (a1, .inr (8, [.int 0, .int ts, .int td, .int tr, .int tf, .int tw])), (a2, .inr (8, [.int 0, .int us, .int ud, .int ur, .int uf, .int uw])), (a3, .inr (8, [.int 0, .int vs, .int vd, .int vr, .int vf, .int vw])), (a4, .inr (8, [.int ((-500)), .int ws, .int wd, .int wr, .int wf, .int ww]))]) [3, 0, 1, 2, 4] (by decide) rfl ?_
            exact sw_iret (pc := 45) F T rfl rfl () (by unfold f_X6_presentAlarms_r; rw [if_pos c_1, if_pos c_10, if_neg c_19, if_pos c_59, if_pos c_68]) rfl dX6_presentAlarms_45
          · skip
            refine sw_iload_n (pc := 32) F dX6_presentAlarms_32 rfl 1 rfl ?_
            refine sw_iconst (pc := 33) (v := 1) F dX6_presentAlarms_33 rfl ?_
            refine sw_iload_n (pc := 34) F dX6_presentAlarms_34 rfl 0 rfl ?_
            refine sw_ishl (pc := 35) F dX6_presentAlarms_35 ?_
            refine sw_eqt (v := .int 8) (by rfl) ?_
            refine sw_ior (pc := 36) F dX6_presentAlarms_36 ?_
            refine sw_topi (fun x_69 ex_69 => ?_)
            refine sw_istore_n (pc := 37) (lv' := [(1, .int x_69), (2, .int 3), (0, .ref h0)]) F T.1 dX6_presentAlarms_37 rfl (by decide) rfl ?_
            refine sw_iinc (pc := 38) (v := 4) (lv' := [(2, .int 4), (1, .int x_69), (0, .ref h0)]) F T.1 dX6_presentAlarms_38 (q := 1) rfl rfl (by decide) rfl ?_
            refine sw_goto (pc := 41) (tgt := 16) F dX6_presentAlarms_41 (by decide) ?_
            refine sw_iload_n (pc := 16) F dX6_presentAlarms_16 rfl 0 rfl ?_
            refine sw_iconst (pc := 17) (v := 4) F dX6_presentAlarms_17 rfl ?_
            refine sw_icmp_ge (pc := 18) (tgt := 44) F dX6_presentAlarms_18 (by decide) (fun _ => ?_) (fun c => absurd c (by decide))
            refine sw_iload_n (pc := 44) F dX6_presentAlarms_44 rfl 1 rfl ?_
            subst ex_69
            subst e_67
            subst e_58
            subst ex_50
            subst e_18
            subst e_9
            refine sw_perm (ws' := [(h0, .inr (6, [.int tm, .int ch, .ref a1, .ref a2, .ref a3, .ref a4, .int rg, .int hd, .int df, .ref a5, .ref a8, .long fl, .long ms, .long vo, .ref a9, .ref a10, .ref a13, .ref a14, .ref a15, .ref a16])), (a1, .inr (8, [.int 0, .int ts, .int td, .int tr, .int tf, .int tw])), (a2, .inr (8, [.int 0, .int us, .int ud, .int ur, .int uf, .int uw])), (a3, .inr (8, [.int 0, .int vs, .int vd, .int vr, .int vf, .int vw])), (a4, .inr (8, [.int ((-500)), .int ws, .int wd, .int wr, .int wf, .int ww]))]) [3, 0, 1, 2, 4] (by decide) rfl ?_
            exact sw_iret (pc := 45) F T rfl rfl () (by unfold f_X6_presentAlarms_r; rw [if_pos c_1, if_pos c_10, if_neg c_19, if_pos c_59, if_neg c_68]) rfl dX6_presentAlarms_45
        · skip
          refine sw_iload_n (pc := 32) F dX6_presentAlarms_32 rfl 1 rfl ?_
          refine sw_iconst (pc := 33) (v := 1) F dX6_presentAlarms_33 rfl ?_
          refine sw_iload_n (pc := 34) F dX6_presentAlarms_34 rfl 0 rfl ?_
          refine sw_ishl (pc := 35) F dX6_presentAlarms_35 ?_
          refine sw_eqt (v := .int 4) (by rfl) ?_
          refine sw_ior (pc := 36) F dX6_presentAlarms_36 ?_
          refine sw_topi (fun x_70 ex_70 => ?_)
          refine sw_istore_n (pc := 37) (lv' := [(1, .int x_70), (2, .int 2), (0, .ref h0)]) F T.1 dX6_presentAlarms_37 rfl (by decide) rfl ?_
          refine sw_iinc (pc := 38) (v := 3) (lv' := [(2, .int 3), (1, .int x_70), (0, .ref h0)]) F T.1 dX6_presentAlarms_38 (q := 1) rfl rfl (by decide) rfl ?_
          refine sw_goto (pc := 41) (tgt := 16) F dX6_presentAlarms_41 (by decide) ?_
          refine sw_iload_n (pc := 16) F dX6_presentAlarms_16 rfl 0 rfl ?_
          refine sw_iconst (pc := 17) (v := 4) F dX6_presentAlarms_17 rfl ?_
          refine sw_icmp_ge (pc := 18) (tgt := 44) F dX6_presentAlarms_18 (by decide) (fun c => absurd c (by decide)) (fun _ => ?_)
          refine sw_aload_n (pc := 21) F dX6_presentAlarms_21 rfl 2 rfl ?_
          refine sw_iload_n (pc := 22) F dX6_presentAlarms_22 rfl 0 rfl ?_
          refine sw_callr (pc := 23) (wr := [(a4, .inr (8, [.int ((-500)), .int ws, .int wd, .int wr, .int wf, .int ww])), (a1, .inr (8, [.int 0, .int ts, .int td, .int tr, .int tf, .int tw])), (a2, .inr (8, [.int 0, .int us, .int ud, .int ur, .int uf, .int uw])), (a3, .inr (8, [.int 0, .int vs, .int vd, .int vr, .int vf, .int vw]))]) (k' := 0) (n' := 0) F (sw_runV (R := ({ frames := 1, cells := 0, slots := 0, locals := 21 } : Room)) (q0 := 0) (na := 1) F T.2.1 T.2.2.1 (k_X6_transmitterAt_3 l G h0 a1 a2 a3 a4 a5 a8 a9 a10 a13 a14 a15 a16 tm ch rg hd df fl ms vo) [3] rfl (by decide) gX6_presentAlarms_X6_transmitterAt rfl rfl rfl (by decide +kernel) ⟨Nat.le_of_ble_eq_true rfl, Nat.le_of_ble_eq_true rfl⟩ rfl rfl rfl rfl rfl (Nat.le_of_ble_eq_true rfl) dX6_presentAlarms_23 (Nat.le_of_ble_eq_true rfl) (Nat.le_of_ble_eq_true rfl)) [3] [0, 1, 2, 4] rfl rfl (by decide) (by decide) rfl rfl (fun r_71 u_72 h_73 => ?_)
          have e_74 : r_71 = a4 := h_73
          refine sw_eqt (v := .ref a4) (by rw [e_74]) ?_
          refine sw_eq (ws' := [(a4, .inr (8, [.int ((-500)), .int ws, .int wd, .int wr, .int wf, .int ww])), (a1, .inr (8, [.int 0, .int ts, .int td, .int tr, .int tf, .int tw])), (a2, .inr (8, [.int 0, .int us, .int ud, .int ur, .int uf, .int uw])), (a3, .inr (8, [.int 0, .int vs, .int vd, .int vr, .int vf, .int vw])), (h0, .inr (6, [.int tm, .int ch, .ref a1, .ref a2, .ref a3, .ref a4, .int rg, .int hd, .int df, .ref a5, .ref a8, .long fl, .long ms, .long vo, .ref a9, .ref a10, .ref a13, .ref a14, .ref a15, .ref a16]))]) (lv' := [(2, .int 3), (1, .int x_70), (0, .ref h0)]) (st' := [.ref a4]) rfl rfl rfl ?_
          refine sw_calli (pc := 26) (wr := [(a1, .inr (8, [.int 0, .int ts, .int td, .int tr, .int tf, .int tw])), (a2, .inr (8, [.int 0, .int us, .int ud, .int ur, .int uf, .int uw])), (a3, .inr (8, [.int 0, .int vs, .int vd, .int vr, .int vf, .int vw])), (h0, .inr (6, [.int tm, .int ch, .ref a1, .ref a2, .ref a3, .ref a4, .int rg, .int hd, .int df, .ref a5, .ref a8, .long fl, .long ms, .long vo, .ref a9, .ref a10, .ref a13, .ref a14, .ref a15, .ref a16]))]) (k' := 0) (n' := 0) F (sw_runV (R := ({ frames := 1, cells := 0, slots := 0, locals := 21 } : Room)) (q0 := 0) (na := 0) F T.2.1 T.2.2.1 (k_X8_isFaulty l G a4 (-500) ws wd wr wf ww) [0] rfl (by decide) gX6_presentAlarms_X8_isFaulty rfl rfl rfl (by decide +kernel) ⟨Nat.le_of_ble_eq_true rfl, Nat.le_of_ble_eq_true rfl⟩ rfl rfl rfl rfl rfl (Nat.le_of_ble_eq_true rfl) dX6_presentAlarms_26 (Nat.le_of_ble_eq_true rfl) (Nat.le_of_ble_eq_true rfl)) [0] [1, 2, 3, 4] rfl rfl (by decide) (by decide) rfl rfl (fun r_75 u_76 h_77 => ?_)
          have e_78 : r_75 = f_X8_isFaulty_r wr := h_77
          refine sw_eq (ws' := [(a1, .inr (8, [.int 0, .int ts, .int td, .int tr, .int tf, .int tw])), (a2, .inr (8, [.int 0, .int us, .int ud, .int ur, .int uf, .int uw])), (a3, .inr (8, [.int 0, .int vs, .int vd, .int vr, .int vf, .int vw])), (h0, .inr (6, [.int tm, .int ch, .ref a1, .ref a2, .ref a3, .ref a4, .int rg, .int hd, .int df, .ref a5, .ref a8, .long fl, .long ms, .long vo, .ref a9, .ref a10, .ref a13, .ref a14, .ref a15, .ref a16])), (a4, .inr (8, [.int ((-500)), .int ws, .int wd, .int wr, .int wf, .int ww]))]) (lv' := [(2, .int 3), (1, .int x_70), (0, .ref h0)]) (st' := [.int r_75]) rfl rfl rfl ?_
          refine sw_if_eq (pc := 29) (tgt := 38) F dX6_presentAlarms_29 (by decide) (fun c_79 => ?_) (fun c_79 => ?_)
          · skip
            refine sw_iinc (pc := 38) (v := 4) (lv' := [(2, .int 4), (1, .int x_70), (0, .ref h0)]) F T.1 dX6_presentAlarms_38 (q := 0) rfl rfl (by decide) rfl ?_
            refine sw_goto (pc := 41) (tgt := 16) F dX6_presentAlarms_41 (by decide) ?_
            refine sw_iload_n (pc := 16) F dX6_presentAlarms_16 rfl 0 rfl ?_
            refine sw_iconst (pc := 17) (v := 4) F dX6_presentAlarms_17 rfl ?_
            refine sw_icmp_ge (pc := 18) (tgt := 44) F dX6_presentAlarms_18 (by decide) (fun _ => ?_) (fun c => absurd c (by decide))
            refine sw_iload_n (pc := 44) F dX6_presentAlarms_44 rfl 1 rfl ?_
            subst e_78
            subst ex_70
            subst e_58
            subst ex_50
            subst e_18
            subst e_9
            refine sw_perm (ws' := [(h0, .inr (6, [.int tm, .int ch, .ref a1, .ref a2, .ref a3, .ref a4, .int rg, .int hd, .int df, .ref a5, .ref a8, .long fl, .long ms, .long vo, .ref a9, .ref a10, .ref a13, .ref a14, .ref a15, .ref a16])), (a1, .inr (8, [.int 0, .int ts, .int td, .int tr, .int tf, .int tw])), (a2, .inr (8, [.int 0, .int us, .int ud, .int ur, .int uf, .int uw])), (a3, .inr (8, [.int 0, .int vs, .int vd, .int vr, .int vf, .int vw])), (a4, .inr (8, [.int ((-500)), .int ws, .int wd, .int wr, .int wf, .int ww]))]) [3, 0, 1, 2, 4] (by decide) rfl ?_
            exact sw_iret (pc := 45) F T rfl rfl () (by unfold f_X6_presentAlarms_r; rw [if_pos c_1, if_pos c_10, if_neg c_19, if_neg c_59, if_pos c_79]) rfl dX6_presentAlarms_45
          · skip
            refine sw_iload_n (pc := 32) F dX6_presentAlarms_32 rfl 1 rfl ?_
            refine sw_iconst (pc := 33) (v := 1) F dX6_presentAlarms_33 rfl ?_
            refine sw_iload_n (pc := 34) F dX6_presentAlarms_34 rfl 0 rfl ?_
            refine sw_ishl (pc := 35) F dX6_presentAlarms_35 ?_
            refine sw_eqt (v := .int 8) (by rfl) ?_
            refine sw_ior (pc := 36) F dX6_presentAlarms_36 ?_
            refine sw_topi (fun x_80 ex_80 => ?_)
            refine sw_istore_n (pc := 37) (lv' := [(1, .int x_80), (2, .int 3), (0, .ref h0)]) F T.1 dX6_presentAlarms_37 rfl (by decide) rfl ?_
            refine sw_iinc (pc := 38) (v := 4) (lv' := [(2, .int 4), (1, .int x_80), (0, .ref h0)]) F T.1 dX6_presentAlarms_38 (q := 1) rfl rfl (by decide) rfl ?_
            refine sw_goto (pc := 41) (tgt := 16) F dX6_presentAlarms_41 (by decide) ?_
            refine sw_iload_n (pc := 16) F dX6_presentAlarms_16 rfl 0 rfl ?_
            refine sw_iconst (pc := 17) (v := 4) F dX6_presentAlarms_17 rfl ?_
            refine sw_icmp_ge (pc := 18) (tgt := 44) F dX6_presentAlarms_18 (by decide) (fun _ => ?_) (fun c => absurd c (by decide))
            refine sw_iload_n (pc := 44) F dX6_presentAlarms_44 rfl 1 rfl ?_
            subst ex_80
            subst e_78
            subst ex_70
            subst e_58
            subst ex_50
            subst e_18
            subst e_9
            refine sw_perm (ws' := [(h0, .inr (6, [.int tm, .int ch, .ref a1, .ref a2, .ref a3, .ref a4, .int rg, .int hd, .int df, .ref a5, .ref a8, .long fl, .long ms, .long vo, .ref a9, .ref a10, .ref a13, .ref a14, .ref a15, .ref a16])), (a1, .inr (8, [.int 0, .int ts, .int td, .int tr, .int tf, .int tw])), (a2, .inr (8, [.int 0, .int us, .int ud, .int ur, .int uf, .int uw])), (a3, .inr (8, [.int 0, .int vs, .int vd, .int vr, .int vf, .int vw])), (a4, .inr (8, [.int ((-500)), .int ws, .int wd, .int wr, .int wf, .int ww]))]) [3, 0, 1, 2, 4] (by decide) rfl ?_
            exact sw_iret (pc := 45) F T rfl rfl () (by unfold f_X6_presentAlarms_r; rw [if_pos c_1, if_pos c_10, if_neg c_19, if_neg c_59, if_neg c_79]) rfl dX6_presentAlarms_45
    · skip
      refine sw_iload_n (pc := 32) F dX6_presentAlarms_32 rfl 1 rfl ?_
      refine sw_iconst (pc := 33) (v := 1) F dX6_presentAlarms_33 rfl ?_
      refine sw_iload_n (pc := 34) F dX6_presentAlarms_34 rfl 0 rfl ?_
      refine sw_ishl (pc := 35) F dX6_presentAlarms_35 ?_
      refine sw_eqt (v := .int 1) (by rfl) ?_
      refine sw_ior (pc := 36) F dX6_presentAlarms_36 ?_
      refine sw_topi (fun x_81 ex_81 => ?_)
      refine sw_istore_n (pc := 37) (lv' := [(1, .int x_81), (2, .int 0), (0, .ref h0)]) F T.1 dX6_presentAlarms_37 rfl (by decide) rfl ?_
      refine sw_iinc (pc := 38) (v := 1) (lv' := [(2, .int 1), (1, .int x_81), (0, .ref h0)]) F T.1 dX6_presentAlarms_38 (q := 1) rfl rfl (by decide) rfl ?_
      refine sw_goto (pc := 41) (tgt := 16) F dX6_presentAlarms_41 (by decide) ?_
      refine sw_iload_n (pc := 16) F dX6_presentAlarms_16 rfl 0 rfl ?_
      refine sw_iconst (pc := 17) (v := 4) F dX6_presentAlarms_17 rfl ?_
      refine sw_icmp_ge (pc := 18) (tgt := 44) F dX6_presentAlarms_18 (by decide) (fun c => absurd c (by decide)) (fun _ => ?_)
      refine sw_aload_n (pc := 21) F dX6_presentAlarms_21 rfl 2 rfl ?_
      refine sw_iload_n (pc := 22) F dX6_presentAlarms_22 rfl 0 rfl ?_
      refine sw_callr (pc := 23) (wr := [(a2, .inr (8, [.int 0, .int us, .int ud, .int ur, .int uf, .int uw])), (a3, .inr (8, [.int 0, .int vs, .int vd, .int vr, .int vf, .int vw])), (a4, .inr (8, [.int ((-500)), .int ws, .int wd, .int wr, .int wf, .int ww])), (a1, .inr (8, [.int 0, .int ts, .int td, .int tr, .int tf, .int tw]))]) (k' := 0) (n' := 0) F (sw_runV (R := ({ frames := 1, cells := 0, slots := 0, locals := 21 } : Room)) (q0 := 0) (na := 1) F T.2.1 T.2.2.1 (k_X6_transmitterAt_1 l G h0 a1 a2 a3 a4 a5 a8 a9 a10 a13 a14 a15 a16 tm ch rg hd df fl ms vo) [3] rfl (by decide) gX6_presentAlarms_X6_transmitterAt rfl rfl rfl (by decide +kernel) ⟨Nat.le_of_ble_eq_true rfl, Nat.le_of_ble_eq_true rfl⟩ rfl rfl rfl rfl rfl (Nat.le_of_ble_eq_true rfl) dX6_presentAlarms_23 (Nat.le_of_ble_eq_true rfl) (Nat.le_of_ble_eq_true rfl)) [3] [0, 1, 2, 4] rfl rfl (by decide) (by decide) rfl rfl (fun r_82 u_83 h_84 => ?_)
      have e_85 : r_82 = a2 := h_84
      refine sw_eqt (v := .ref a2) (by rw [e_85]) ?_
      refine sw_eq (ws' := [(a2, .inr (8, [.int 0, .int us, .int ud, .int ur, .int uf, .int uw])), (a3, .inr (8, [.int 0, .int vs, .int vd, .int vr, .int vf, .int vw])), (a4, .inr (8, [.int ((-500)), .int ws, .int wd, .int wr, .int wf, .int ww])), (a1, .inr (8, [.int 0, .int ts, .int td, .int tr, .int tf, .int tw])), (h0, .inr (6, [.int tm, .int ch, .ref a1, .ref a2, .ref a3, .ref a4, .int rg, .int hd, .int df, .ref a5, .ref a8, .long fl, .long ms, .long vo, .ref a9, .ref a10, .ref a13, .ref a14, .ref a15, .ref a16]))]) (lv' := [(2, .int 1), (1, .int x_81), (0, .ref h0)]) (st' := [.ref a2]) rfl rfl rfl ?_
      refine sw_calli (pc := 26) (wr := [(a3, .inr (8, [.int 0, .int vs, .int vd, .int vr, .int vf, .int vw])), (a4, .inr (8, [.int ((-500)), .int ws, .int wd, .int wr, .int wf, .int ww])), (a1, .inr (8, [.int 0, .int ts, .int td, .int tr, .int tf, .int tw])), (h0, .inr (6, [.int tm, .int ch, .ref a1, .ref a2, .ref a3, .ref a4, .int rg, .int hd, .int df, .ref a5, .ref a8, .long fl, .long ms, .long vo, .ref a9, .ref a10, .ref a13, .ref a14, .ref a15, .ref a16]))]) (k' := 0) (n' := 0) F (sw_runV (R := ({ frames := 1, cells := 0, slots := 0, locals := 21 } : Room)) (q0 := 0) (na := 0) F T.2.1 T.2.2.1 (k_X8_isFaulty l G a2 0 us ud ur uf uw) [0] rfl (by decide) gX6_presentAlarms_X8_isFaulty rfl rfl rfl (by decide +kernel) ⟨Nat.le_of_ble_eq_true rfl, Nat.le_of_ble_eq_true rfl⟩ rfl rfl rfl rfl rfl (Nat.le_of_ble_eq_true rfl) dX6_presentAlarms_26 (Nat.le_of_ble_eq_true rfl) (Nat.le_of_ble_eq_true rfl)) [0] [1, 2, 3, 4] rfl rfl (by decide) (by decide) rfl rfl (fun r_86 u_87 h_88 => ?_)
      have e_89 : r_86 = f_X8_isFaulty_r ur := h_88
      refine sw_eq (ws' := [(a3, .inr (8, [.int 0, .int vs, .int vd, .int vr, .int vf, .int vw])), (a4, .inr (8, [.int ((-500)), .int ws, .int wd, .int wr, .int wf, .int ww])), (a1, .inr (8, [.int 0, .int ts, .int td, .int tr, .int tf, .int tw])), (h0, .inr (6, [.int tm, .int ch, .ref a1, .ref a2, .ref a3, .ref a4, .int rg, .int hd, .int df, .ref a5, .ref a8, .long fl, .long ms, .long vo, .ref a9, .ref a10, .ref a13, .ref a14, .ref a15, .ref a16])), (a2, .inr (8, [.int 0, .int us, .int ud, .int ur, .int uf, .int uw]))]) (lv' := [(2, .int 1), (1, .int x_81), (0, .ref h0)]) (st' := [.int r_86]) rfl rfl rfl ?_
      refine sw_if_eq (pc := 29) (tgt := 38) F dX6_presentAlarms_29 (by decide) (fun c_90 => ?_) (fun c_90 => ?_)
      · skip
        refine sw_iinc (pc := 38) (v := 2) (lv' := [(2, .int 2), (1, .int x_81), (0, .ref h0)]) F T.1 dX6_presentAlarms_38 (q := 0) rfl rfl (by decide) rfl ?_
        refine sw_goto (pc := 41) (tgt := 16) F dX6_presentAlarms_41 (by decide) ?_
        refine sw_iload_n (pc := 16) F dX6_presentAlarms_16 rfl 0 rfl ?_
        refine sw_iconst (pc := 17) (v := 4) F dX6_presentAlarms_17 rfl ?_
        refine sw_icmp_ge (pc := 18) (tgt := 44) F dX6_presentAlarms_18 (by decide) (fun c => absurd c (by decide)) (fun _ => ?_)
        refine sw_aload_n (pc := 21) F dX6_presentAlarms_21 rfl 2 rfl ?_
        refine sw_iload_n (pc := 22) F dX6_presentAlarms_22 rfl 0 rfl ?_
        refine sw_callr (pc := 23) (wr := [(a3, .inr (8, [.int 0, .int vs, .int vd, .int vr, .int vf, .int vw])), (a4, .inr (8, [.int ((-500)), .int ws, .int wd, .int wr, .int wf, .int ww])), (a1, .inr (8, [.int 0, .int ts, .int td, .int tr, .int tf, .int tw])), (a2, .inr (8, [.int 0, .int us, .int ud, .int ur, .int uf, .int uw]))]) (k' := 0) (n' := 0) F (sw_runV (R := ({ frames := 1, cells := 0, slots := 0, locals := 21 } : Room)) (q0 := 0) (na := 1) F T.2.1 T.2.2.1 (k_X6_transmitterAt_2 l G h0 a1 a2 a3 a4 a5 a8 a9 a10 a13 a14 a15 a16 tm ch rg hd df fl ms vo) [3] rfl (by decide) gX6_presentAlarms_X6_transmitterAt rfl rfl rfl (by decide +kernel) ⟨Nat.le_of_ble_eq_true rfl, Nat.le_of_ble_eq_true rfl⟩ rfl rfl rfl rfl rfl (Nat.le_of_ble_eq_true rfl) dX6_presentAlarms_23 (Nat.le_of_ble_eq_true rfl) (Nat.le_of_ble_eq_true rfl)) [3] [0, 1, 2, 4] rfl rfl (by decide) (by decide) rfl rfl (fun r_91 u_92 h_93 => ?_)
        have e_94 : r_91 = a3 := h_93
        refine sw_eqt (v := .ref a3) (by rw [e_94]) ?_
        refine sw_eq (ws' := [(a3, .inr (8, [.int 0, .int vs, .int vd, .int vr, .int vf, .int vw])), (a4, .inr (8, [.int ((-500)), .int ws, .int wd, .int wr, .int wf, .int ww])), (a1, .inr (8, [.int 0, .int ts, .int td, .int tr, .int tf, .int tw])), (a2, .inr (8, [.int 0, .int us, .int ud, .int ur, .int uf, .int uw])), (h0, .inr (6, [.int tm, .int ch, .ref a1, .ref a2, .ref a3, .ref a4, .int rg, .int hd, .int df, .ref a5, .ref a8, .long fl, .long ms, .long vo, .ref a9, .ref a10, .ref a13, .ref a14, .ref a15, .ref a16]))]) (lv' := [(2, .int 2), (1, .int x_81), (0, .ref h0)]) (st' := [.ref a3]) rfl rfl rfl ?_
        refine sw_calli (pc := 26) (wr := [(a4, .inr (8, [.int ((-500)), .int ws, .int wd, .int wr, .int wf, .int ww])), (a1, .inr (8, [.int 0, .int ts, .int td, .int tr, .int tf, .int tw])), (a2, .inr (8, [.int 0, .int us, .int ud, .int ur, .int uf, .int uw])), (h0, .inr (6, [.int tm, .int ch, .ref a1, .ref a2, .ref a3, .ref a4, .int rg, .int hd, .int df, .ref a5, .ref a8, .long fl, .long ms, .long vo, .ref a9, .ref a10, .ref a13, .ref a14, .ref a15, .ref a16]))]) (k' := 0) (n' := 0) F (sw_runV (R := ({ frames := 1, cells := 0, slots := 0, locals := 21 } : Room)) (q0 := 0) (na := 0) F T.2.1 T.2.2.1 (k_X8_isFaulty l G a3 0 vs vd vr vf vw) [0] rfl (by decide) gX6_presentAlarms_X8_isFaulty rfl rfl rfl (by decide +kernel) ⟨Nat.le_of_ble_eq_true rfl, Nat.le_of_ble_eq_true rfl⟩ rfl rfl rfl rfl rfl (Nat.le_of_ble_eq_true rfl) dX6_presentAlarms_26 (Nat.le_of_ble_eq_true rfl) (Nat.le_of_ble_eq_true rfl)) [0] [1, 2, 3, 4] rfl rfl (by decide) (by decide) rfl rfl (fun r_95 u_96 h_97 => ?_)
        have e_98 : r_95 = f_X8_isFaulty_r vr := h_97
        refine sw_eq (ws' := [(a4, .inr (8, [.int ((-500)), .int ws, .int wd, .int wr, .int wf, .int ww])), (a1, .inr (8, [.int 0, .int ts, .int td, .int tr, .int tf, .int tw])), (a2, .inr (8, [.int 0, .int us, .int ud, .int ur, .int uf, .int uw])), (h0, .inr (6, [.int tm, .int ch, .ref a1, .ref a2, .ref a3, .ref a4, .int rg, .int hd, .int df, .ref a5, .ref a8, .long fl, .long ms, .long vo, .ref a9, .ref a10, .ref a13, .ref a14, .ref a15, .ref a16])), (a3, .inr (8, [.int 0, .int vs, .int vd, .int vr, .int vf, .int vw]))]) (lv' := [(2, .int 2), (1, .int x_81), (0, .ref h0)]) (st' := [.int r_95]) rfl rfl rfl ?_
        refine sw_if_eq (pc := 29) (tgt := 38) F dX6_presentAlarms_29 (by decide) (fun c_99 => ?_) (fun c_99 => ?_)
        · skip
          refine sw_iinc (pc := 38) (v := 3) (lv' := [(2, .int 3), (1, .int x_81), (0, .ref h0)]) F T.1 dX6_presentAlarms_38 (q := 0) rfl rfl (by decide) rfl ?_
          refine sw_goto (pc := 41) (tgt := 16) F dX6_presentAlarms_41 (by decide) ?_
          refine sw_iload_n (pc := 16) F dX6_presentAlarms_16 rfl 0 rfl ?_
          refine sw_iconst (pc := 17) (v := 4) F dX6_presentAlarms_17 rfl ?_
          refine sw_icmp_ge (pc := 18) (tgt := 44) F dX6_presentAlarms_18 (by decide) (fun c => absurd c (by decide)) (fun _ => ?_)
          refine sw_aload_n (pc := 21) F dX6_presentAlarms_21 rfl 2 rfl ?_
          refine sw_iload_n (pc := 22) F dX6_presentAlarms_22 rfl 0 rfl ?_
          refine sw_callr (pc := 23) (wr := [(a4, .inr (8, [.int ((-500)), .int ws, .int wd, .int wr, .int wf, .int ww])), (a1, .inr (8, [.int 0, .int ts, .int td, .int tr, .int tf, .int tw])), (a2, .inr (8, [.int 0, .int us, .int ud, .int ur, .int uf, .int uw])), (a3, .inr (8, [.int 0, .int vs, .int vd, .int vr, .int vf, .int vw]))]) (k' := 0) (n' := 0) F (sw_runV (R := ({ frames := 1, cells := 0, slots := 0, locals := 21 } : Room)) (q0 := 0) (na := 1) F T.2.1 T.2.2.1 (k_X6_transmitterAt_3 l G h0 a1 a2 a3 a4 a5 a8 a9 a10 a13 a14 a15 a16 tm ch rg hd df fl ms vo) [3] rfl (by decide) gX6_presentAlarms_X6_transmitterAt rfl rfl rfl (by decide +kernel) ⟨Nat.le_of_ble_eq_true rfl, Nat.le_of_ble_eq_true rfl⟩ rfl rfl rfl rfl rfl (Nat.le_of_ble_eq_true rfl) dX6_presentAlarms_23 (Nat.le_of_ble_eq_true rfl) (Nat.le_of_ble_eq_true rfl)) [3] [0, 1, 2, 4] rfl rfl (by decide) (by decide) rfl rfl (fun r_100 u_101 h_102 => ?_)
          have e_103 : r_100 = a4 := h_102
          refine sw_eqt (v := .ref a4) (by rw [e_103]) ?_
          refine sw_eq (ws' := [(a4, .inr (8, [.int ((-500)), .int ws, .int wd, .int wr, .int wf, .int ww])), (a1, .inr (8, [.int 0, .int ts, .int td, .int tr, .int tf, .int tw])), (a2, .inr (8, [.int 0, .int us, .int ud, .int ur, .int uf, .int uw])), (a3, .inr (8, [.int 0, .int vs, .int vd, .int vr, .int vf, .int vw])), (h0, .inr (6, [.int tm, .int ch, .ref a1, .ref a2, .ref a3, .ref a4, .int rg, .int hd, .int df, .ref a5, .ref a8, .long fl, .long ms, .long vo, .ref a9, .ref a10, .ref a13, .ref a14, .ref a15, .ref a16]))]) (lv' := [(2, .int 3), (1, .int x_81), (0, .ref h0)]) (st' := [.ref a4]) rfl rfl rfl ?_
          refine sw_calli (pc := 26) (wr := [(a1, .inr (8, [.int 0, .int ts, .int td, .int tr, .int tf, .int tw])), (a2, .inr (8, [.int 0, .int us, .int ud, .int ur, .int uf, .int uw])), (a3, .inr (8, [.int 0, .int vs, .int vd, .int vr, .int vf, .int vw])), (h0, .inr (6, [.int tm, .int ch, .ref a1, .ref a2, .ref a3, .ref a4, .int rg, .int hd, .int df, .ref a5, .ref a8, .long fl, .long ms, .long vo, .ref a9, .ref a10, .ref a13, .ref a14, .ref a15, .ref a16]))]) (k' := 0) (n' := 0) F (sw_runV (R := ({ frames := 1, cells := 0, slots := 0, locals := 21 } : Room)) (q0 := 0) (na := 0) F T.2.1 T.2.2.1 (k_X8_isFaulty l G a4 (-500) ws wd wr wf ww) [0] rfl (by decide) gX6_presentAlarms_X8_isFaulty rfl rfl rfl (by decide +kernel) ⟨Nat.le_of_ble_eq_true rfl, Nat.le_of_ble_eq_true rfl⟩ rfl rfl rfl rfl rfl (Nat.le_of_ble_eq_true rfl) dX6_presentAlarms_26 (Nat.le_of_ble_eq_true rfl) (Nat.le_of_ble_eq_true rfl)) [0] [1, 2, 3, 4] rfl rfl (by decide) (by decide) rfl rfl (fun r_104 u_105 h_106 => ?_)
          have e_107 : r_104 = f_X8_isFaulty_r wr := h_106
          refine sw_eq (ws' := [(a1, .inr (8, [.int 0, .int ts, .int td, .int tr, .int tf, .int tw])), (a2, .inr (8, [.int 0, .int us, .int ud, .int ur, .int uf, .int uw])), (a3, .inr (8, [.int 0, .int vs, .int vd, .int vr, .int vf, .int vw])), (h0, .inr (6, [.int tm, .int ch, .ref a1, .ref a2, .ref a3, .ref a4, .int rg, .int hd, .int df, .ref a5, .ref a8, .long fl, .long ms, .long vo, .ref a9, .ref a10, .ref a13, .ref a14, .ref a15, .ref a16])), (a4, .inr (8, [.int ((-500)), .int ws, .int wd, .int wr, .int wf, .int ww]))]) (lv' := [(2, .int 3), (1, .int x_81), (0, .ref h0)]) (st' := [.int r_104]) rfl rfl rfl ?_
          refine sw_if_eq (pc := 29) (tgt := 38) F dX6_presentAlarms_29 (by decide) (fun c_108 => ?_) (fun c_108 => ?_)
          · skip
            refine sw_iinc (pc := 38) (v := 4) (lv' := [(2, .int 4), (1, .int x_81), (0, .ref h0)]) F T.1 dX6_presentAlarms_38 (q := 0) rfl rfl (by decide) rfl ?_
            refine sw_goto (pc := 41) (tgt := 16) F dX6_presentAlarms_41 (by decide) ?_
            refine sw_iload_n (pc := 16) F dX6_presentAlarms_16 rfl 0 rfl ?_
            refine sw_iconst (pc := 17) (v := 4) F dX6_presentAlarms_17 rfl ?_
            refine sw_icmp_ge (pc := 18) (tgt := 44) F dX6_presentAlarms_18 (by decide) (fun _ => ?_) (fun c => absurd c (by decide))
            refine sw_iload_n (pc := 44) F dX6_presentAlarms_44 rfl 1 rfl ?_
            subst e_107
            subst e_98
            subst e_89
            subst ex_81
            subst e_9
            refine sw_perm (ws' := [(h0, .inr (6, [.int tm, .int ch, .ref a1, .ref a2, .ref a3, .ref a4, .int rg, .int hd, .int df, .ref a5, .ref a8, .long fl, .long ms, .long vo, .ref a9, .ref a10, .ref a13, .ref a14, .ref a15, .ref a16])), (a1, .inr (8, [.int 0, .int ts, .int td, .int tr, .int tf, .int tw])), (a2, .inr (8, [.int 0, .int us, .int ud, .int ur, .int uf, .int uw])), (a3, .inr (8, [.int 0, .int vs, .int vd, .int vr, .int vf, .int vw])), (a4, .inr (8, [.int ((-500)), .int ws, .int wd, .int wr, .int wf, .int ww]))]) [3, 0, 1, 2, 4] (by decide) rfl ?_
            exact sw_iret (pc := 45) F T rfl rfl () (by unfold f_X6_presentAlarms_r; rw [if_pos c_1, if_neg c_10, if_pos c_90, if_pos c_99, if_pos c_108]) rfl dX6_presentAlarms_45
          · skip
            refine sw_iload_n (pc := 32) F dX6_presentAlarms_32 rfl 1 rfl ?_
            refine sw_iconst (pc := 33) (v := 1) F dX6_presentAlarms_33 rfl ?_
            refine sw_iload_n (pc := 34) F dX6_presentAlarms_34 rfl 0 rfl ?_
            refine sw_ishl (pc := 35) F dX6_presentAlarms_35 ?_
            refine sw_eqt (v := .int 8) (by rfl) ?_
            refine sw_ior (pc := 36) F dX6_presentAlarms_36 ?_
            refine sw_topi (fun x_109 ex_109 => ?_)
            refine sw_istore_n (pc := 37) (lv' := [(1, .int x_109), (2, .int 3), (0, .ref h0)]) F T.1 dX6_presentAlarms_37 rfl (by decide) rfl ?_
            refine sw_iinc (pc := 38) (v := 4) (lv' := [(2, .int 4), (1, .int x_109), (0, .ref h0)]) F T.1 dX6_presentAlarms_38 (q := 1) rfl rfl (by decide) rfl ?_
            refine sw_goto (pc := 41) (tgt := 16) F dX6_presentAlarms_41 (by decide) ?_
            refine sw_iload_n (pc := 16) F dX6_presentAlarms_16 rfl 0 rfl ?_
            refine sw_iconst (pc := 17) (v := 4) F dX6_presentAlarms_17 rfl ?_
            refine sw_icmp_ge (pc := 18) (tgt := 44) F dX6_presentAlarms_18 (by decide) (fun _ => ?_) (fun c => absurd c (by decide))
            refine sw_iload_n (pc := 44) F dX6_presentAlarms_44 rfl 1 rfl ?_
            subst ex_109
            subst e_107
            subst e_98
            subst e_89
            subst ex_81
            subst e_9
            refine sw_perm (ws' := [(h0, .inr (6, [.int tm, .int ch, .ref a1, .ref a2, .ref a3, .ref a4, .int rg, .int hd, .int df, .ref a5, .ref a8, .long fl, .long ms, .long vo, .ref a9, .ref a10, .ref a13, .ref a14, .ref a15, .ref a16])), (a1, .inr (8, [.int 0, .int ts, .int td, .int tr, .int tf, .int tw])), (a2, .inr (8, [.int 0, .int us, .int ud, .int ur, .int uf, .int uw])), (a3, .inr (8, [.int 0, .int vs, .int vd, .int vr, .int vf, .int vw])), (a4, .inr (8, [.int ((-500)), .int ws, .int wd, .int wr, .int wf, .int ww]))]) [3, 0, 1, 2, 4] (by decide) rfl ?_
            exact sw_iret (pc := 45) F T rfl rfl () (by unfold f_X6_presentAlarms_r; rw [if_pos c_1, if_neg c_10, if_pos c_90, if_pos c_99, if_neg c_108]) rfl dX6_presentAlarms_45
        · skip
          refine sw_iload_n (pc := 32) F dX6_presentAlarms_32 rfl 1 rfl ?_
          refine sw_iconst (pc := 33) (v := 1) F dX6_presentAlarms_33 rfl ?_
          refine sw_iload_n (pc := 34) F dX6_presentAlarms_34 rfl 0 rfl ?_
          refine sw_ishl (pc := 35) F dX6_presentAlarms_35 ?_
          refine sw_eqt (v := .int 4) (by rfl) ?_
          refine sw_ior (pc := 36) F dX6_presentAlarms_36 ?_
          refine sw_topi (fun x_110 ex_110 => ?_)
          refine sw_istore_n (pc := 37) (lv' := [(1, .int x_110), (2, .int 2), (0, .ref h0)]) F T.1 dX6_presentAlarms_37 rfl (by decide) rfl ?_
          refine sw_iinc (pc := 38) (v := 3) (lv' := [(2, .int 3), (1, .int x_110), (0, .ref h0)]) F T.1 dX6_presentAlarms_38 (q := 1) rfl rfl (by decide) rfl ?_
          refine sw_goto (pc := 41) (tgt := 16) F dX6_presentAlarms_41 (by decide) ?_
          refine sw_iload_n (pc := 16) F dX6_presentAlarms_16 rfl 0 rfl ?_
          refine sw_iconst (pc := 17) (v := 4) F dX6_presentAlarms_17 rfl ?_
          refine sw_icmp_ge (pc := 18) (tgt := 44) F dX6_presentAlarms_18 (by decide) (fun c => absurd c (by decide)) (fun _ => ?_)
          refine sw_aload_n (pc := 21) F dX6_presentAlarms_21 rfl 2 rfl ?_
          refine sw_iload_n (pc := 22) F dX6_presentAlarms_22 rfl 0 rfl ?_
          refine sw_callr (pc := 23) (wr := [(a4, .inr (8, [.int ((-500)), .int ws, .int wd, .int wr, .int wf, .int ww])), (a1, .inr (8, [.int 0, .int ts, .int td, .int tr, .int tf, .int tw])), (a2, .inr (8, [.int 0, .int us, .int ud, .int ur, .int uf, .int uw])), (a3, .inr (8, [.int 0, .int vs, .int vd, .int vr, .int vf, .int vw]))]) (k' := 0) (n' := 0) F (sw_runV (R := ({ frames := 1, cells := 0, slots := 0, locals := 21 } : Room)) (q0 := 0) (na := 1) F T.2.1 T.2.2.1 (k_X6_transmitterAt_3 l G h0 a1 a2 a3 a4 a5 a8 a9 a10 a13 a14 a15 a16 tm ch rg hd df fl ms vo) [3] rfl (by decide) gX6_presentAlarms_X6_transmitterAt rfl rfl rfl (by decide +kernel) ⟨Nat.le_of_ble_eq_true rfl, Nat.le_of_ble_eq_true rfl⟩ rfl rfl rfl rfl rfl (Nat.le_of_ble_eq_true rfl) dX6_presentAlarms_23 (Nat.le_of_ble_eq_true rfl) (Nat.le_of_ble_eq_true rfl)) [3] [0, 1, 2, 4] rfl rfl (by decide) (by decide) rfl rfl (fun r_111 u_112 h_113 => ?_)
          have e_114 : r_111 = a4 := h_113
          refine sw_eqt (v := .ref a4) (by rw [e_114]) ?_
          refine sw_eq (ws' := [(a4, .inr (8, [.int ((-500)), .int ws, .int wd, .int wr, .int wf, .int ww])), (a1, .inr (8, [.int 0, .int ts, .int td, .int tr, .int tf, .int tw])), (a2, .inr (8, [.int 0, .int us, .int ud, .int ur, .int uf, .int uw])), (a3, .inr (8, [.int 0, .int vs, .int vd, .int vr, .int vf, .int vw])), (h0, .inr (6, [.int tm, .int ch, .ref a1, .ref a2, .ref a3, .ref a4, .int rg, .int hd, .int df, .ref a5, .ref a8, .long fl, .long ms, .long vo, .ref a9, .ref a10, .ref a13, .ref a14, .ref a15, .ref a16]))]) (lv' := [(2, .int 3), (1, .int x_110), (0, .ref h0)]) (st' := [.ref a4]) rfl rfl rfl ?_
          refine sw_calli (pc := 26) (wr := [(a1, .inr (8, [.int 0, .int ts, .int td, .int tr, .int tf, .int tw])), (a2, .inr (8, [.int 0, .int us, .int ud, .int ur, .int uf, .int uw])), (a3, .inr (8, [.int 0, .int vs, .int vd, .int vr, .int vf, .int vw])), (h0, .inr (6, [.int tm, .int ch, .ref a1, .ref a2, .ref a3, .ref a4, .int rg, .int hd, .int df, .ref a5, .ref a8, .long fl, .long ms, .long vo, .ref a9, .ref a10, .ref a13, .ref a14, .ref a15, .ref a16]))]) (k' := 0) (n' := 0) F (sw_runV (R := ({ frames := 1, cells := 0, slots := 0, locals := 21 } : Room)) (q0 := 0) (na := 0) F T.2.1 T.2.2.1 (k_X8_isFaulty l G a4 (-500) ws wd wr wf ww) [0] rfl (by decide) gX6_presentAlarms_X8_isFaulty rfl rfl rfl (by decide +kernel) ⟨Nat.le_of_ble_eq_true rfl, Nat.le_of_ble_eq_true rfl⟩ rfl rfl rfl rfl rfl (Nat.le_of_ble_eq_true rfl) dX6_presentAlarms_26 (Nat.le_of_ble_eq_true rfl) (Nat.le_of_ble_eq_true rfl)) [0] [1, 2, 3, 4] rfl rfl (by decide) (by decide) rfl rfl (fun r_115 u_116 h_117 => ?_)
          have e_118 : r_115 = f_X8_isFaulty_r wr := h_117
          refine sw_eq (ws' := [(a1, .inr (8, [.int 0, .int ts, .int td, .int tr, .int tf, .int tw])), (a2, .inr (8, [.int 0, .int us, .int ud, .int ur, .int uf, .int uw])), (a3, .inr (8, [.int 0, .int vs, .int vd, .int vr, .int vf, .int vw])), (h0, .inr (6, [.int tm, .int ch, .ref a1, .ref a2, .ref a3, .ref a4, .int rg, .int hd, .int df, .ref a5, .ref a8, .long fl, .long ms, .long vo, .ref a9, .ref a10, .ref a13, .ref a14, .ref a15, .ref a16])), (a4, .inr (8, [.int ((-500)), .int ws, .int wd, .int wr, .int wf, .int ww]))]) (lv' := [(2, .int 3), (1, .int x_110), (0, .ref h0)]) (st' := [.int r_115]) rfl rfl rfl ?_
          refine sw_if_eq (pc := 29) (tgt := 38) F dX6_presentAlarms_29 (by decide) (fun c_119 => ?_) (fun c_119 => ?_)
          · skip
            refine sw_iinc (pc := 38) (v := 4) (lv' := [(2, .int 4), (1, .int x_110), (0, .ref h0)]) F T.1 dX6_presentAlarms_38 (q := 0) rfl rfl (by decide) rfl ?_
            refine sw_goto (pc := 41) (tgt := 16) F dX6_presentAlarms_41 (by decide) ?_
            refine sw_iload_n (pc := 16) F dX6_presentAlarms_16 rfl 0 rfl ?_
            refine sw_iconst (pc := 17) (v := 4) F dX6_presentAlarms_17 rfl ?_
            refine sw_icmp_ge (pc := 18) (tgt := 44) F dX6_presentAlarms_18 (by decide) (fun _ => ?_) (fun c => absurd c (by decide))
            refine sw_iload_n (pc := 44) F dX6_presentAlarms_44 rfl 1 rfl ?_
            subst e_118
            subst ex_110
            subst e_98
            subst e_89
            subst ex_81
            subst e_9
            refine sw_perm (ws' := [(h0, .inr (6, [.int tm, .int ch, .ref a1, .ref a2, .ref a3, .ref a4, .int rg, .int hd, .int df, .ref a5, .ref a8, .long fl, .long ms, .long vo, .ref a9, .ref a10, .ref a13, .ref a14, .ref a15, .ref a16])), (a1, .inr (8, [.int 0, .int ts, .int td, .int tr, .int tf, .int tw])), (a2, .inr (8, [.int 0, .int us, .int ud, .int ur, .int uf, .int uw])), (a3, .inr (8, [.int 0, .int vs, .int vd, .int vr, .int vf, .int vw])), (a4, .inr (8, [.int ((-500)), .int ws, .int wd, .int wr, .int wf, .int ww]))]) [3, 0, 1, 2, 4] (by decide) rfl ?_
            exact sw_iret (pc := 45) F T rfl rfl () (by unfold f_X6_presentAlarms_r; rw [if_pos c_1, if_neg c_10, if_pos c_90, if_neg c_99, if_pos c_119]) rfl dX6_presentAlarms_45
          · skip
            refine sw_iload_n (pc := 32) F dX6_presentAlarms_32 rfl 1 rfl ?_
            refine sw_iconst (pc := 33) (v := 1) F dX6_presentAlarms_33 rfl ?_
            refine sw_iload_n (pc := 34) F dX6_presentAlarms_34 rfl 0 rfl ?_
            refine sw_ishl (pc := 35) F dX6_presentAlarms_35 ?_
            refine sw_eqt (v := .int 8) (by rfl) ?_
            refine sw_ior (pc := 36) F dX6_presentAlarms_36 ?_
            refine sw_topi (fun x_120 ex_120 => ?_)
            refine sw_istore_n (pc := 37) (lv' := [(1, .int x_120), (2, .int 3), (0, .ref h0)]) F T.1 dX6_presentAlarms_37 rfl (by decide) rfl ?_
            refine sw_iinc (pc := 38) (v := 4) (lv' := [(2, .int 4), (1, .int x_120), (0, .ref h0)]) F T.1 dX6_presentAlarms_38 (q := 1) rfl rfl (by decide) rfl ?_
            refine sw_goto (pc := 41) (tgt := 16) F dX6_presentAlarms_41 (by decide) ?_
            refine sw_iload_n (pc := 16) F dX6_presentAlarms_16 rfl 0 rfl ?_
            refine sw_iconst (pc := 17) (v := 4) F dX6_presentAlarms_17 rfl ?_
            refine sw_icmp_ge (pc := 18) (tgt := 44) F dX6_presentAlarms_18 (by decide) (fun _ => ?_) (fun c => absurd c (by decide))
            refine sw_iload_n (pc := 44) F dX6_presentAlarms_44 rfl 1 rfl ?_
            subst ex_120
            subst e_118
            subst ex_110
            subst e_98
            subst e_89
            subst ex_81
            subst e_9
            refine sw_perm (ws' := [(h0, .inr (6, [.int tm, .int ch, .ref a1, .ref a2, .ref a3, .ref a4, .int rg, .int hd, .int df, .ref a5, .ref a8, .long fl, .long ms, .long vo, .ref a9, .ref a10, .ref a13, .ref a14, .ref a15, .ref a16])), (a1, .inr (8, [.int 0, .int ts, .int td, .int tr, .int tf, .int tw])), (a2, .inr (8, [.int 0, .int us, .int ud, .int ur, .int uf, .int uw])), (a3, .inr (8, [.int 0, .int vs, .int vd, .int vr, .int vf, .int vw])), (a4, .inr (8, [.int ((-500)), .int ws, .int wd, .int wr, .int wf, .int ww]))]) [3, 0, 1, 2, 4] (by decide) rfl ?_
            exact sw_iret (pc := 45) F T rfl rfl () (by unfold f_X6_presentAlarms_r; rw [if_pos c_1, if_neg c_10, if_pos c_90, if_neg c_99, if_neg c_119]) rfl dX6_presentAlarms_45
      · skip
        refine sw_iload_n (pc := 32) F dX6_presentAlarms_32 rfl 1 rfl ?_
        refine sw_iconst (pc := 33) (v := 1) F dX6_presentAlarms_33 rfl ?_
        refine sw_iload_n (pc := 34) F dX6_presentAlarms_34 rfl 0 rfl ?_
        refine sw_ishl (pc := 35) F dX6_presentAlarms_35 ?_
        refine sw_eqt (v := .int 2) (by rfl) ?_
        refine sw_ior (pc := 36) F dX6_presentAlarms_36 ?_
        refine sw_topi (fun x_121 ex_121 => ?_)
        refine sw_istore_n (pc := 37) (lv' := [(1, .int x_121), (2, .int 1), (0, .ref h0)]) F T.1 dX6_presentAlarms_37 rfl (by decide) rfl ?_
        refine sw_iinc (pc := 38) (v := 2) (lv' := [(2, .int 2), (1, .int x_121), (0, .ref h0)]) F T.1 dX6_presentAlarms_38 (q := 1) rfl rfl (by decide) rfl ?_
        refine sw_goto (pc := 41) (tgt := 16) F dX6_presentAlarms_41 (by decide) ?_
        refine sw_iload_n (pc := 16) F dX6_presentAlarms_16 rfl 0 rfl ?_
        refine sw_iconst (pc := 17) (v := 4) F dX6_presentAlarms_17 rfl ?_
        refine sw_icmp_ge (pc := 18) (tgt := 44) F dX6_presentAlarms_18 (by decide) (fun c => absurd c (by decide)) (fun _ => ?_)
        refine sw_aload_n (pc := 21) F dX6_presentAlarms_21 rfl 2 rfl ?_
        refine sw_iload_n (pc := 22) F dX6_presentAlarms_22 rfl 0 rfl ?_
        refine sw_callr (pc := 23) (wr := [(a3, .inr (8, [.int 0, .int vs, .int vd, .int vr, .int vf, .int vw])), (a4, .inr (8, [.int ((-500)), .int ws, .int wd, .int wr, .int wf, .int ww])), (a1, .inr (8, [.int 0, .int ts, .int td, .int tr, .int tf, .int tw])), (a2, .inr (8, [.int 0, .int us, .int ud, .int ur, .int uf, .int uw]))]) (k' := 0) (n' := 0) F (sw_runV (R := ({ frames := 1, cells := 0, slots := 0, locals := 21 } : Room)) (q0 := 0) (na := 1) F T.2.1 T.2.2.1 (k_X6_transmitterAt_2 l G h0 a1 a2 a3 a4 a5 a8 a9 a10 a13 a14 a15 a16 tm ch rg hd df fl ms vo) [3] rfl (by decide) gX6_presentAlarms_X6_transmitterAt rfl rfl rfl (by decide +kernel) ⟨Nat.le_of_ble_eq_true rfl, Nat.le_of_ble_eq_true rfl⟩ rfl rfl rfl rfl rfl (Nat.le_of_ble_eq_true rfl) dX6_presentAlarms_23 (Nat.le_of_ble_eq_true rfl) (Nat.le_of_ble_eq_true rfl)) [3] [0, 1, 2, 4] rfl rfl (by decide) (by decide) rfl rfl (fun r_122 u_123 h_124 => ?_)
        have e_125 : r_122 = a3 := h_124
        refine sw_eqt (v := .ref a3) (by rw [e_125]) ?_
        refine sw_eq (ws' := [(a3, .inr (8, [.int 0, .int vs, .int vd, .int vr, .int vf, .int vw])), (a4, .inr (8, [.int ((-500)), .int ws, .int wd, .int wr, .int wf, .int ww])), (a1, .inr (8, [.int 0, .int ts, .int td, .int tr, .int tf, .int tw])), (a2, .inr (8, [.int 0, .int us, .int ud, .int ur, .int uf, .int uw])), (h0, .inr (6, [.int tm, .int ch, .ref a1, .ref a2, .ref a3, .ref a4, .int rg, .int hd, .int df, .ref a5, .ref a8, .long fl, .long ms, .long vo, .ref a9, .ref a10, .ref a13, .ref a14, .ref a15, .ref a16]))]) (lv' := [(2, .int 2), (1, .int x_121), (0, .ref h0)]) (st' := [.ref a3]) rfl rfl rfl ?_
        refine sw_calli (pc := 26) (wr := [(a4, .inr (8, [.int ((-500)), .int ws, .int wd, .int wr, .int wf, .int ww])), (a1, .inr (8, [.int 0, .int ts, .int td, .int tr, .int tf, .int tw])), (a2, .inr (8, [.int 0, .int us, .int ud, .int ur, .int uf, .int uw])), (h0, .inr (6, [.int tm, .int ch, .ref a1, .ref a2, .ref a3, .ref a4, .int rg, .int hd, .int df, .ref a5, .ref a8, .long fl, .long ms, .long vo, .ref a9, .ref a10, .ref a13, .ref a14, .ref a15, .ref a16]))]) (k' := 0) (n' := 0) F (sw_runV (R := ({ frames := 1, cells := 0, slots := 0, locals := 21 } : Room)) (q0 := 0) (na := 0) F T.2.1 T.2.2.1 (k_X8_isFaulty l G a3 0 vs vd vr vf vw) [0] rfl (by decide) gX6_presentAlarms_X8_isFaulty rfl rfl rfl (by decide +kernel) ⟨Nat.le_of_ble_eq_true rfl, Nat.le_of_ble_eq_true rfl⟩ rfl rfl rfl rfl rfl (Nat.le_of_ble_eq_true rfl) dX6_presentAlarms_26 (Nat.le_of_ble_eq_true rfl) (Nat.le_of_ble_eq_true rfl)) [0] [1, 2, 3, 4] rfl rfl (by decide) (by decide) rfl rfl (fun r_126 u_127 h_128 => ?_)
        have e_129 : r_126 = f_X8_isFaulty_r vr := h_128
        refine sw_eq (ws' := [(a4, .inr (8, [.int ((-500)), .int ws, .int wd, .int wr, .int wf, .int ww])), (a1, .inr (8, [.int 0, .int ts, .int td, .int tr, .int tf, .int tw])), (a2, .inr (8, [.int 0, .int us, .int ud, .int ur, .int uf, .int uw])), (h0, .inr (6, [.int tm, .int ch, .ref a1, .ref a2, .ref a3, .ref a4, .int rg, .int hd, .int df, .ref a5, .ref a8, .long fl, .long ms, .long vo, .ref a9, .ref a10, .ref a13, .ref a14, .ref a15, .ref a16])), (a3, .inr (8, [.int 0, .int vs, .int vd, .int vr, .int vf, .int vw]))]) (lv' := [(2, .int 2), (1, .int x_121), (0, .ref h0)]) (st' := [.int r_126]) rfl rfl rfl ?_
        refine sw_if_eq (pc := 29) (tgt := 38) F dX6_presentAlarms_29 (by decide) (fun c_130 => ?_) (fun c_130 => ?_)
        · skip
          refine sw_iinc (pc := 38) (v := 3) (lv' := [(2, .int 3), (1, .int x_121), (0, .ref h0)]) F T.1 dX6_presentAlarms_38 (q := 0) rfl rfl (by decide) rfl ?_
          refine sw_goto (pc := 41) (tgt := 16) F dX6_presentAlarms_41 (by decide) ?_
          refine sw_iload_n (pc := 16) F dX6_presentAlarms_16 rfl 0 rfl ?_
          refine sw_iconst (pc := 17) (v := 4) F dX6_presentAlarms_17 rfl ?_
          refine sw_icmp_ge (pc := 18) (tgt := 44) F dX6_presentAlarms_18 (by decide) (fun c => absurd c (by decide)) (fun _ => ?_)
          refine sw_aload_n (pc := 21) F dX6_presentAlarms_21 rfl 2 rfl ?_
          refine sw_iload_n (pc := 22) F dX6_presentAlarms_22 rfl 0 rfl ?_
          refine sw_callr (pc := 23) (wr := [(a4, .inr (8, [.int ((-500)), .int ws, .int wd, .int wr, .int wf, .int ww])), (a1, .inr (8, [.int 0, .int ts, .int td, .int tr, .int tf, .int tw])), (a2, .inr (8, [.int 0, .int us, .int ud, .int ur, .int uf, .int uw])), (a3, .inr (8, [.int 0, .int vs, .int vd, .int vr, .int vf, .int vw]))]) (k' := 0) (n' := 0) F (sw_runV (R := ({ frames := 1, cells := 0, slots := 0, locals := 21 } : Room)) (q0 := 0) (na := 1) F T.2.1 T.2.2.1 (k_X6_transmitterAt_3 l G h0 a1 a2 a3 a4 a5 a8 a9 a10 a13 a14 a15 a16 tm ch rg hd df fl ms vo) [3] rfl (by decide) gX6_presentAlarms_X6_transmitterAt rfl rfl rfl (by decide +kernel) ⟨Nat.le_of_ble_eq_true rfl, Nat.le_of_ble_eq_true rfl⟩ rfl rfl rfl rfl rfl (Nat.le_of_ble_eq_true rfl) dX6_presentAlarms_23 (Nat.le_of_ble_eq_true rfl) (Nat.le_of_ble_eq_true rfl)) [3] [0, 1, 2, 4] rfl rfl (by decide) (by decide) rfl rfl (fun r_131 u_132 h_133 => ?_)
          have e_134 : r_131 = a4 := h_133
          refine sw_eqt (v := .ref a4) (by rw [e_134]) ?_
          refine sw_eq (ws' := [(a4, .inr (8, [.int ((-500)), .int ws, .int wd, .int wr, .int wf, .int ww])), (a1, .inr (8, [.int 0, .int ts, .int td, .int tr, .int tf, .int tw])), (a2, .inr (8, [.int 0, .int us, .int ud, .int ur, .int uf, .int uw])), (a3, .inr (8, [.int 0, .int vs, .int vd, .int vr, .int vf, .int vw])), (h0, .inr (6, [.int tm, .int ch, .ref a1, .ref a2, .ref a3, .ref a4, .int rg, .int hd, .int df, .ref a5, .ref a8, .long fl, .long ms, .long vo, .ref a9, .ref a10, .ref a13, .ref a14, .ref a15, .ref a16]))]) (lv' := [(2, .int 3), (1, .int x_121), (0, .ref h0)]) (st' := [.ref a4]) rfl rfl rfl ?_
          refine sw_calli (pc := 26) (wr := [(a1, .inr (8, [.int 0, .int ts, .int td, .int tr, .int tf, .int tw])), (a2, .inr (8, [.int 0, .int us, .int ud, .int ur, .int uf, .int uw])), (a3, .inr (8, [.int 0, .int vs, .int vd, .int vr, .int vf, .int vw])), (h0, .inr (6, [.int tm, .int ch, .ref a1, .ref a2, .ref a3, .ref a4, .int rg, .int hd, .int df, .ref a5, .ref a8, .long fl, .long ms, .long vo, .ref a9, .ref a10, .ref a13, .ref a14, .ref a15, .ref a16]))]) (k' := 0) (n' := 0) F (sw_runV (R := ({ frames := 1, cells := 0, slots := 0, locals := 21 } : Room)) (q0 := 0) (na := 0) F T.2.1 T.2.2.1 (k_X8_isFaulty l G a4 (-500) ws wd wr wf ww) [0] rfl (by decide) gX6_presentAlarms_X8_isFaulty rfl rfl rfl (by decide +kernel) ⟨Nat.le_of_ble_eq_true rfl, Nat.le_of_ble_eq_true rfl⟩ rfl rfl rfl rfl rfl (Nat.le_of_ble_eq_true rfl) dX6_presentAlarms_26 (Nat.le_of_ble_eq_true rfl) (Nat.le_of_ble_eq_true rfl)) [0] [1, 2, 3, 4] rfl rfl (by decide) (by decide) rfl rfl (fun r_135 u_136 h_137 => ?_)
          have e_138 : r_135 = f_X8_isFaulty_r wr := h_137
          refine sw_eq (ws' := [(a1, .inr (8, [.int 0, .int ts, .int td, .int tr, .int tf, .int tw])), (a2, .inr (8, [.int 0, .int us, .int ud, .int ur, .int uf, .int uw])), (a3, .inr (8, [.int 0, .int vs, .int vd, .int vr, .int vf, .int vw])), (h0, .inr (6, [.int tm, .int ch, .ref a1, .ref a2, .ref a3, .ref a4, .int rg, .int hd, .int df, .ref a5, .ref a8, .long fl, .long ms, .long vo, .ref a9, .ref a10, .ref a13, .ref a14, .ref a15, .ref a16])), (a4, .inr (8, [.int ((-500)), .int ws, .int wd, .int wr, .int wf, .int ww]))]) (lv' := [(2, .int 3), (1, .int x_121), (0, .ref h0)]) (st' := [.int r_135]) rfl rfl rfl ?_
          refine sw_if_eq (pc := 29) (tgt := 38) F dX6_presentAlarms_29 (by decide) (fun c_139 => ?_) (fun c_139 => ?_)
          · skip
            refine sw_iinc (pc := 38) (v := 4) (lv' := [(2, .int 4), (1, .int x_121), (0, .ref h0)]) F T.1 dX6_presentAlarms_38 (q := 0) rfl rfl (by decide) rfl ?_
            refine sw_goto (pc := 41) (tgt := 16) F dX6_presentAlarms_41 (by decide) ?_
            refine sw_iload_n (pc := 16) F dX6_presentAlarms_16 rfl 0 rfl ?_
            refine sw_iconst (pc := 17) (v := 4) F dX6_presentAlarms_17 rfl ?_
            refine sw_icmp_ge (pc := 18) (tgt := 44) F dX6_presentAlarms_18 (by decide) (fun _ => ?_) (fun c => absurd c (by decide))
            refine sw_iload_n (pc := 44) F dX6_presentAlarms_44 rfl 1 rfl ?_
            subst e_138
            subst e_129
            subst ex_121
            subst e_89
            subst ex_81
            subst e_9
            refine sw_perm (ws' := [(h0, .inr (6, [.int tm, .int ch, .ref a1, .ref a2, .ref a3, .ref a4, .int rg, .int hd, .int df, .ref a5, .ref a8, .long fl, .long ms, .long vo, .ref a9, .ref a10, .ref a13, .ref a14, .ref a15, .ref a16])), (a1, .inr (8, [.int 0, .int ts, .int td, .int tr, .int tf, .int tw])), (a2, .inr (8, [.int 0, .int us, .int ud, .int ur, .int uf, .int uw])), (a3, .inr (8, [.int 0, .int vs, .int vd, .int vr, .int vf, .int vw])), (a4, .inr (8, [.int ((-500)), .int ws, .int wd, .int wr, .int wf, .int ww]))]) [3, 0, 1, 2, 4] (by decide) rfl ?_
            exact sw_iret (pc := 45) F T rfl rfl () (by unfold f_X6_presentAlarms_r; rw [if_pos c_1, if_neg c_10, if_neg c_90, if_pos c_130, if_pos c_139]) rfl dX6_presentAlarms_45
          · skip
            refine sw_iload_n (pc := 32) F dX6_presentAlarms_32 rfl 1 rfl ?_
            refine sw_iconst (pc := 33) (v := 1) F dX6_presentAlarms_33 rfl ?_
            refine sw_iload_n (pc := 34) F dX6_presentAlarms_34 rfl 0 rfl ?_
            refine sw_ishl (pc := 35) F dX6_presentAlarms_35 ?_
            refine sw_eqt (v := .int 8) (by rfl) ?_
            refine sw_ior (pc := 36) F dX6_presentAlarms_36 ?_
            refine sw_topi (fun x_140 ex_140 => ?_)
            refine sw_istore_n (pc := 37) (lv' := [(1, .int x_140), (2, .int 3), (0, .ref h0)]) F T.1 dX6_presentAlarms_37 rfl (by decide) rfl ?_
            refine sw_iinc (pc := 38) (v := 4) (lv' := [(2, .int 4), (1, .int x_140), (0, .ref h0)]) F T.1 dX6_presentAlarms_38 (q := 1) rfl rfl (by decide) rfl ?_
            refine sw_goto (pc := 41) (tgt := 16) F dX6_presentAlarms_41 (by decide) ?_
            refine sw_iload_n (pc := 16) F dX6_presentAlarms_16 rfl 0 rfl ?_
            refine sw_iconst (pc := 17) (v := 4) F dX6_presentAlarms_17 rfl ?_
            refine sw_icmp_ge (pc := 18) (tgt := 44) F dX6_presentAlarms_18 (by decide) (fun _ => ?_) (fun c => absurd c (by decide))
            refine sw_iload_n (pc := 44) F dX6_presentAlarms_44 rfl 1 rfl ?_
            subst ex_140
            subst e_138
            subst e_129
            subst ex_121
            subst e_89
            subst ex_81
            subst e_9
            refine sw_perm (ws' := [(h0, .inr (6, [.int tm, .int ch, .ref a1, .ref a2, .ref a3, .ref a4, .int rg, .int hd, .int df, .ref a5, .ref a8, .long fl, .long ms, .long vo, .ref a9, .ref a10, .ref a13, .ref a14, .ref a15, .ref a16])), (a1, .inr (8, [.int 0, .int ts, .int td, .int tr, .int tf, .int tw])), (a2, .inr (8, [.int 0, .int us, .int ud, .int ur, .int uf, .int uw])), (a3, .inr (8, [.int 0, .int vs, .int vd, .int vr, .int vf, .int vw])), (a4, .inr (8, [.int ((-500)), .int ws, .int wd, .int wr, .int wf, .int ww]))]) [3, 0, 1, 2, 4] (by decide) rfl ?_
            exact sw_iret (pc := 45) F T rfl rfl () (by unfold f_X6_presentAlarms_r; rw [if_pos c_1, if_neg c_10, if_neg c_90, if_pos c_130, if_neg c_139]) rfl dX6_presentAlarms_45
        · skip
          refine sw_iload_n (pc := 32) F dX6_presentAlarms_32 rfl 1 rfl ?_
          refine sw_iconst (pc := 33) (v := 1) F dX6_presentAlarms_33 rfl ?_
          refine sw_iload_n (pc := 34) F dX6_presentAlarms_34 rfl 0 rfl ?_
          refine sw_ishl (pc := 35) F dX6_presentAlarms_35 ?_
          refine sw_eqt (v := .int 4) (by rfl) ?_
          refine sw_ior (pc := 36) F dX6_presentAlarms_36 ?_
          refine sw_topi (fun x_141 ex_141 => ?_)
          refine sw_istore_n (pc := 37) (lv' := [(1, .int x_141), (2, .int 2), (0, .ref h0)]) F T.1 dX6_presentAlarms_37 rfl (by decide) rfl ?_
          refine sw_iinc (pc := 38) (v := 3) (lv' := [(2, .int 3), (1, .int x_141), (0, .ref h0)]) F T.1 dX6_presentAlarms_38 (q := 1) rfl rfl (by decide) rfl ?_
          refine sw_goto (pc := 41) (tgt := 16) F dX6_presentAlarms_41 (by decide) ?_
          refine sw_iload_n (pc := 16) F dX6_presentAlarms_16 rfl 0 rfl ?_
          refine sw_iconst (pc := 17) (v := 4) F dX6_presentAlarms_17 rfl ?_
          refine sw_icmp_ge (pc := 18) (tgt := 44) F dX6_presentAlarms_18 (by decide) (fun c => absurd c (by decide)) (fun _ => ?_)
          refine sw_aload_n (pc := 21) F dX6_presentAlarms_21 rfl 2 rfl ?_
          refine sw_iload_n (pc := 22) F dX6_presentAlarms_22 rfl 0 rfl ?_
          refine sw_callr (pc := 23) (wr := [(a4, .inr (8, [.int ((-500)), .int ws, .int wd, .int wr, .int wf, .int ww])), (a1, .inr (8, [.int 0, .int ts, .int td, .int tr, .int tf, .int tw])), (a2, .inr (8, [.int 0, .int us, .int ud, .int ur, .int uf, .int uw])), (a3, .inr (8, [.int 0, .int vs, .int vd, .int vr, .int vf, .int vw]))]) (k' := 0) (n' := 0) F (sw_runV (R := ({ frames := 1, cells := 0, slots := 0, locals := 21 } : Room)) (q0 := 0) (na := 1) F T.2.1 T.2.2.1 (k_X6_transmitterAt_3 l G h0 a1 a2 a3 a4 a5 a8 a9 a10 a13 a14 a15 a16 tm ch rg hd df fl ms vo) [3] rfl (by decide) gX6_presentAlarms_X6_transmitterAt rfl rfl rfl (by decide +kernel) ⟨Nat.le_of_ble_eq_true rfl, Nat.le_of_ble_eq_true rfl⟩ rfl rfl rfl rfl rfl (Nat.le_of_ble_eq_true rfl) dX6_presentAlarms_23 (Nat.le_of_ble_eq_true rfl) (Nat.le_of_ble_eq_true rfl)) [3] [0, 1, 2, 4] rfl rfl (by decide) (by decide) rfl rfl (fun r_142 u_143 h_144 => ?_)
          have e_145 : r_142 = a4 := h_144
          refine sw_eqt (v := .ref a4) (by rw [e_145]) ?_
          refine sw_eq (ws' := [(a4, .inr (8, [.int ((-500)), .int ws, .int wd, .int wr, .int wf, .int ww])), (a1, .inr (8, [.int 0, .int ts, .int td, .int tr, .int tf, .int tw])), (a2, .inr (8, [.int 0, .int us, .int ud, .int ur, .int uf, .int uw])), (a3, .inr (8, [.int 0, .int vs, .int vd, .int vr, .int vf, .int vw])), (h0, .inr (6, [.int tm, .int ch, .ref a1, .ref a2, .ref a3, .ref a4, .int rg, .int hd, .int df, .ref a5, .ref a8, .long fl, .long ms, .long vo, .ref a9, .ref a10, .ref a13, .ref a14, .ref a15, .ref a16]))]) (lv' := [(2, .int 3), (1, .int x_141), (0, .ref h0)]) (st' := [.ref a4]) rfl rfl rfl ?_
          refine sw_calli (pc := 26) (wr := [(a1, .inr (8, [.int 0, .int ts, .int td, .int tr, .int tf, .int tw])), (a2, .inr (8, [.int 0, .int us, .int ud, .int ur, .int uf, .int uw])), (a3, .inr (8, [.int 0, .int vs, .int vd, .int vr, .int vf, .int vw])), (h0, .inr (6, [.int tm, .int ch, .ref a1, .ref a2, .ref a3, .ref a4, .int rg, .int hd, .int df, .ref a5, .ref a8, .long fl, .long ms, .long vo, .ref a9, .ref a10, .ref a13, .ref a14, .ref a15, .ref a16]))]) (k' := 0) (n' := 0) F (sw_runV (R := ({ frames := 1, cells := 0, slots := 0, locals := 21 } : Room)) (q0 := 0) (na := 0) F T.2.1 T.2.2.1 (k_X8_isFaulty l G a4 (-500) ws wd wr wf ww) [0] rfl (by decide) gX6_presentAlarms_X8_isFaulty rfl rfl rfl (by decide +kernel) ⟨Nat.le_of_ble_eq_true rfl, Nat.le_of_ble_eq_true rfl⟩ rfl rfl rfl rfl rfl (Nat.le_of_ble_eq_true rfl) dX6_presentAlarms_26 (Nat.le_of_ble_eq_true rfl) (Nat.le_of_ble_eq_true rfl)) [0] [1, 2, 3, 4] rfl rfl (by decide) (by decide) rfl rfl (fun r_146 u_147 h_148 => ?_)
          have e_149 : r_146 = f_X8_isFaulty_r wr := h_148
          refine sw_eq (ws' := [(a1, .inr (8, [.int 0, .int ts, .int td, .int tr, .int tf, .int tw])), (a2, .inr (8, [.int 0, .int us, .int ud, .int ur, .int uf, .int uw])), (a3, .inr (8, [.int 0, .int vs, .int vd, .int vr, .int vf, .int vw])), (h0, .inr (6, [.int tm, .int ch, .ref a1, .ref a2, .ref a3, .ref a4, .int rg, .int hd, .int df, .ref a5, .ref a8, .long fl, .long ms, .long vo, .ref a9, .ref a10, .ref a13, .ref a14, .ref a15, .ref a16])), (a4, .inr (8, [.int ((-500)), .int ws, .int wd, .int wr, .int wf, .int ww]))]) (lv' := [(2, .int 3), (1, .int x_141), (0, .ref h0)]) (st' := [.int r_146]) rfl rfl rfl ?_
          refine sw_if_eq (pc := 29) (tgt := 38) F dX6_presentAlarms_29 (by decide) (fun c_150 => ?_) (fun c_150 => ?_)
          · skip
            refine sw_iinc (pc := 38) (v := 4) (lv' := [(2, .int 4), (1, .int x_141), (0, .ref h0)]) F T.1 dX6_presentAlarms_38 (q := 0) rfl rfl (by decide) rfl ?_
            refine sw_goto (pc := 41) (tgt := 16) F dX6_presentAlarms_41 (by decide) ?_
            refine sw_iload_n (pc := 16) F dX6_presentAlarms_16 rfl 0 rfl ?_
            refine sw_iconst (pc := 17) (v := 4) F dX6_presentAlarms_17 rfl ?_
            refine sw_icmp_ge (pc := 18) (tgt := 44) F dX6_presentAlarms_18 (by decide) (fun _ => ?_) (fun c => absurd c (by decide))
            refine sw_iload_n (pc := 44) F dX6_presentAlarms_44 rfl 1 rfl ?_
            subst e_149
            subst ex_141
            subst e_129
            subst ex_121
            subst e_89
            subst ex_81
            subst e_9
            refine sw_perm (ws' := [(h0, .inr (6, [.int tm, .int ch, .ref a1, .ref a2, .ref a3, .ref a4, .int rg, .int hd, .int df, .ref a5, .ref a8, .long fl, .long ms, .long vo, .ref a9, .ref a10, .ref a13, .ref a14, .ref a15, .ref a16])), (a1, .inr (8, [.int 0, .int ts, .int td, .int tr, .int tf, .int tw])), (a2, .inr (8, [.int 0, .int us, .int ud, .int ur, .int uf, .int uw])), (a3, .inr (8, [.int 0, .int vs, .int vd, .int vr, .int vf, .int vw])), (a4, .inr (8, [.int ((-500)), .int ws, .int wd, .int wr, .int wf, .int ww]))]) [3, 0, 1, 2, 4] (by decide) rfl ?_
            exact sw_iret (pc := 45) F T rfl rfl () (by unfold f_X6_presentAlarms_r; rw [if_pos c_1, if_neg c_10, if_neg c_90, if_neg c_130, if_pos c_150]) rfl dX6_presentAlarms_45
          · skip
            refine sw_iload_n (pc := 32) F dX6_presentAlarms_32 rfl 1 rfl ?_
            refine sw_iconst (pc := 33) (v := 1) F dX6_presentAlarms_33 rfl ?_
            refine sw_iload_n (pc := 34) F dX6_presentAlarms_34 rfl 0 rfl ?_
            refine sw_ishl (pc := 35) F dX6_presentAlarms_35 ?_
            refine sw_eqt (v := .int 8) (by rfl) ?_
            refine sw_ior (pc := 36) F dX6_presentAlarms_36 ?_
            refine sw_topi (fun x_151 ex_151 => ?_)
            refine sw_istore_n (pc := 37) (lv' := [(1, .int x_151), (2, .int 3), (0, .ref h0)]) F T.1 dX6_presentAlarms_37 rfl (by decide) rfl ?_
            refine sw_iinc (pc := 38) (v := 4) (lv' := [(2, .int 4), (1, .int x_151), (0, .ref h0)]) F T.1 dX6_presentAlarms_38 (q := 1) rfl rfl (by decide) rfl ?_
            refine sw_goto (pc := 41) (tgt := 16) F dX6_presentAlarms_41 (by decide) ?_
            refine sw_iload_n (pc := 16) F dX6_presentAlarms_16 rfl 0 rfl ?_
            refine sw_iconst (pc := 17) (v := 4) F dX6_presentAlarms_17 rfl ?_
            refine sw_icmp_ge (pc := 18) (tgt := 44) F dX6_presentAlarms_18 (by decide) (fun _ => ?_) (fun c => absurd c (by decide))
            refine sw_iload_n (pc := 44) F dX6_presentAlarms_44 rfl 1 rfl ?_
            subst ex_151
            subst e_149
            subst ex_141
            subst e_129
            subst ex_121
            subst e_89
            subst ex_81
            subst e_9
            refine sw_perm (ws' := [(h0, .inr (6, [.int tm, .int ch, .ref a1, .ref a2, .ref a3, .ref a4, .int rg, .int hd, .int df, .ref a5, .ref a8, .long fl, .long ms, .long vo, .ref a9, .ref a10, .ref a13, .ref a14, .ref a15, .ref a16])), (a1, .inr (8, [.int 0, .int ts, .int td, .int tr, .int tf, .int tw])), (a2, .inr (8, [.int 0, .int us, .int ud, .int ur, .int uf, .int uw])), (a3, .inr (8, [.int 0, .int vs, .int vd, .int vr, .int vf, .int vw])), (a4, .inr (8, [.int ((-500)), .int ws, .int wd, .int wr, .int wf, .int ww]))]) [3, 0, 1, 2, 4] (by decide) rfl ?_
            exact sw_iret (pc := 45) F T rfl rfl () (by unfold f_X6_presentAlarms_r; rw [if_pos c_1, if_neg c_10, if_neg c_90, if_neg c_130, if_neg c_150]) rfl dX6_presentAlarms_45
  · skip
    refine sw_bipush (pc := 7) (v := 16) F dX6_presentAlarms_7 rfl ?_
    refine sw_goto (pc := 9) (tgt := 13) F dX6_presentAlarms_9 (by decide) ?_
    refine sw_istore_n (pc := 13) (lv' := [(1, .int 16), (0, .ref h0)]) F T.1 dX6_presentAlarms_13 rfl (by decide) rfl ?_
    refine sw_iconst (pc := 14) (v := 0) F dX6_presentAlarms_14 rfl ?_
    refine sw_istore_n (pc := 15) (lv' := [(2, .int 0), (1, .int 16), (0, .ref h0)]) F T.1 dX6_presentAlarms_15 rfl (by decide) rfl ?_
    refine sw_iload_n (pc := 16) F dX6_presentAlarms_16 rfl 0 rfl ?_
    refine sw_iconst (pc := 17) (v := 4) F dX6_presentAlarms_17 rfl ?_
    refine sw_icmp_ge (pc := 18) (tgt := 44) F dX6_presentAlarms_18 (by decide) (fun c => absurd c (by decide)) (fun _ => ?_)
    refine sw_aload_n (pc := 21) F dX6_presentAlarms_21 rfl 2 rfl ?_
    refine sw_iload_n (pc := 22) F dX6_presentAlarms_22 rfl 0 rfl ?_
    refine sw_callr (pc := 23) (wr := [(a1, .inr (8, [.int 0, .int ts, .int td, .int tr, .int tf, .int tw])), (a2, .inr (8, [.int 0, .int us, .int ud, .int ur, .int uf, .int uw])), (a3, .inr (8, [.int 0, .int vs, .int vd, .int vr, .int vf, .int vw])), (a4, .inr (8, [.int ((-500)), .int ws, .int wd, .int wr, .int wf, .int ww]))]) (k' := 0) (n' := 0) F (sw_runV (R := ({ frames := 1, cells := 0, slots := 0, locals := 21 } : Room)) (q0 := 0) (na := 1) F T.2.1 T.2.2.1 (k_X6_transmitterAt_0 l G h0 a1 a2 a3 a4 a5 a8 a9 a10 a13 a14 a15 a16 tm ch rg hd df fl ms vo) [0] rfl (by decide) gX6_presentAlarms_X6_transmitterAt rfl rfl rfl (by decide +kernel) ⟨Nat.le_of_ble_eq_true rfl, Nat.le_of_ble_eq_true rfl⟩ rfl rfl rfl rfl rfl (Nat.le_of_ble_eq_true rfl) dX6_presentAlarms_23 (Nat.le_of_ble_eq_true rfl) (Nat.le_of_ble_eq_true rfl)) [0] [1, 2, 3, 4] rfl rfl (by decide) (by decide) rfl rfl (fun r_152 u_153 h_154 => ?_)
    have e_155 : r_152 = a1 := h_154
    refine sw_eqt (v := .ref a1) (by rw [e_155]) ?_
    refine sw_eq (ws' := [(a1, .inr (8, [.int 0, .int ts, .int td, .int tr, .int tf, .int tw])), (a2, .inr (8, [.int 0, .int us, .int ud, .int ur, .int uf, .int uw])), (a3, .inr (8, [.int 0, .int vs, .int vd, .int vr, .int vf, .int vw])), (a4, .inr (8, [.int ((-500)), .int ws, .int wd, .int wr, .int wf, .int ww])), (h0, .inr (6, [.int tm, .int ch, .ref a1, .ref a2, .ref a3, .ref a4, .int rg, .int hd, .int df, .ref a5, .ref a8, .long fl, .long ms, .long vo, .ref a9, .ref a10, .ref a13, .ref a14, .ref a15, .ref a16]))]) (lv' := [(2, .int 0), (1, .int 16), (0, .ref h0)]) (st' := [.ref a1]) rfl rfl rfl ?_
    refine sw_calli (pc := 26) (wr := [(a2, .inr (8, [.int 0, .int us, .int ud, .int ur, .int uf, .int uw])), (a3, .inr (8, [.int 0, .int vs, .int vd, .int vr, .int vf, .int vw])), (a4, .inr (8, [.int ((-500)), .int ws, .int wd, .int wr, .int wf, .int ww])), (h0, .inr (6, [.int tm, .int ch, .ref a1, .ref a2, .ref a3, .ref a4, .int rg, .int hd, .int df, .ref a5, .ref a8, .long fl, .long ms, .long vo, .ref a9, .ref a10, .ref a13, .ref a14, .ref a15, .ref a16]))]) (k' := 0) (n' := 0) F (sw_runV (R := ({ frames := 1, cells := 0, slots := 0, locals := 21 } : Room)) (q0 := 0) (na := 0) F T.2.1 T.2.2.1 (k_X8_isFaulty l G a1 0 ts td tr tf tw) [0] rfl (by decide) gX6_presentAlarms_X8_isFaulty rfl rfl rfl (by decide +kernel) ⟨Nat.le_of_ble_eq_true rfl, Nat.le_of_ble_eq_true rfl⟩ rfl rfl rfl rfl rfl (Nat.le_of_ble_eq_true rfl) dX6_presentAlarms_26 (Nat.le_of_ble_eq_true rfl) (Nat.le_of_ble_eq_true rfl)) [0] [1, 2, 3, 4] rfl rfl (by decide) (by decide) rfl rfl (fun r_156 u_157 h_158 => ?_)
    have e_159 : r_156 = f_X8_isFaulty_r tr := h_158
    refine sw_eq (ws' := [(a2, .inr (8, [.int 0, .int us, .int ud, .int ur, .int uf, .int uw])), (a3, .inr (8, [.int 0, .int vs, .int vd, .int vr, .int vf, .int vw])), (a4, .inr (8, [.int ((-500)), .int ws, .int wd, .int wr, .int wf, .int ww])), (h0, .inr (6, [.int tm, .int ch, .ref a1, .ref a2, .ref a3, .ref a4, .int rg, .int hd, .int df, .ref a5, .ref a8, .long fl, .long ms, .long vo, .ref a9, .ref a10, .ref a13, .ref a14, .ref a15, .ref a16])), (a1, .inr (8, [.int 0, .int ts, .int td, .int tr, .int tf, .int tw]))]) (lv' := [(2, .int 0), (1, .int 16), (0, .ref h0)]) (st' := [.int r_156]) rfl rfl rfl ?_
    refine sw_if_eq (pc := 29) (tgt := 38) F dX6_presentAlarms_29 (by decide) (fun c_160 => ?_) (fun c_160 => ?_)
    · skip
      refine sw_iinc (pc := 38) (v := 1) (lv' := [(2, .int 1), (1, .int 16), (0, .ref h0)]) F T.1 dX6_presentAlarms_38 (q := 0) rfl rfl (by decide) rfl ?_
      refine sw_goto (pc := 41) (tgt := 16) F dX6_presentAlarms_41 (by decide) ?_
      refine sw_iload_n (pc := 16) F dX6_presentAlarms_16 rfl 0 rfl ?_
      refine sw_iconst (pc := 17) (v := 4) F dX6_presentAlarms_17 rfl ?_
      refine sw_icmp_ge (pc := 18) (tgt := 44) F dX6_presentAlarms_18 (by decide) (fun c => absurd c (by decide)) (fun _ => ?_)
      refine sw_aload_n (pc := 21) F dX6_presentAlarms_21 rfl 2 rfl ?_
      refine sw_iload_n (pc := 22) F dX6_presentAlarms_22 rfl 0 rfl ?_
      refine sw_callr (pc := 23) (wr := [(a2, .inr (8, [.int 0, .int us, .int ud, .int ur, .int uf, .int uw])), (a3, .inr (8, [.int 0, .int vs, .int vd, .int vr, .int vf, .int vw])), (a4, .inr (8, [.int ((-500)), .int ws, .int wd, .int wr, .int wf, .int ww])), (a1, .inr (8, [.int 0, .int ts, .int td, .int tr, .int tf, .int tw]))]) (k' := 0) (n' := 0) F (sw_runV (R := ({ frames := 1, cells := 0, slots := 0, locals := 21 } : Room)) (q0 := 0) (na := 1) F T.2.1 T.2.2.1 (k_X6_transmitterAt_1 l G h0 a1 a2 a3 a4 a5 a8 a9 a10 a13 a14 a15 a16 tm ch rg hd df fl ms vo) [3] rfl (by decide) gX6_presentAlarms_X6_transmitterAt rfl rfl rfl (by decide +kernel) ⟨Nat.le_of_ble_eq_true rfl, Nat.le_of_ble_eq_true rfl⟩ rfl rfl rfl rfl rfl (Nat.le_of_ble_eq_true rfl) dX6_presentAlarms_23 (Nat.le_of_ble_eq_true rfl) (Nat.le_of_ble_eq_true rfl)) [3] [0, 1, 2, 4] rfl rfl (by decide) (by decide) rfl rfl (fun r_161 u_162 h_163 => ?_)
      have e_164 : r_161 = a2 := h_163
      refine sw_eqt (v := .ref a2) (by rw [e_164]) ?_
      refine sw_eq (ws' := [(a2, .inr (8, [.int 0, .int us, .int ud, .int ur, .int uf, .int uw])), (a3, .inr (8, [.int 0, .int vs, .int vd, .int vr, .int vf, .int vw])), (a4, .inr (8, [.int ((-500)), .int ws, .int wd, .int wr, .int wf, .int ww])), (a1, .inr (8, [.int 0, .int ts, .int td, .int tr, .int tf, .int tw])), (h0, .inr (6, [.int tm, .int ch, .ref a1, .ref a2, .ref a3, .ref a4, .int rg, .int hd, .int df, .ref a5, .ref a8, .long fl, .long ms, .long vo, .ref a9, .ref a10, .ref a13, .ref a14, .ref a15, .ref a16]))]) (lv' := [(2, .int 1), (1, .int 16), (0, .ref h0)]) (st' := [.ref a2]) rfl rfl rfl ?_
      refine sw_calli (pc := 26) (wr := [(a3, .inr (8, [.int 0, .int vs, .int vd, .int vr, .int vf, .int vw])), (a4, .inr (8, [.int ((-500)), .int ws, .int wd, .int wr, .int wf, .int ww])), (a1, .inr (8, [.int 0, .int ts, .int td, .int tr, .int tf, .int tw])), (h0, .inr (6, [.int tm, .int ch, .ref a1, .ref a2, .ref a3, .ref a4, .int rg, .int hd, .int df, .ref a5, .ref a8, .long fl, .long ms, .long vo, .ref a9, .ref a10, .ref a13, .ref a14, .ref a15, .ref a16]))]) (k' := 0) (n' := 0) F (sw_runV (R := ({ frames := 1, cells := 0, slots := 0, locals := 21 } : Room)) (q0 := 0) (na := 0) F T.2.1 T.2.2.1 (k_X8_isFaulty l G a2 0 us ud ur uf uw) [0] rfl (by decide) gX6_presentAlarms_X8_isFaulty rfl rfl rfl (by decide +kernel) ⟨Nat.le_of_ble_eq_true rfl, Nat.le_of_ble_eq_true rfl⟩ rfl rfl rfl rfl rfl (Nat.le_of_ble_eq_true rfl) dX6_presentAlarms_26 (Nat.le_of_ble_eq_true rfl) (Nat.le_of_ble_eq_true rfl)) [0] [1, 2, 3, 4] rfl rfl (by decide) (by decide) rfl rfl (fun r_165 u_166 h_167 => ?_)
      have e_168 : r_165 = f_X8_isFaulty_r ur := h_167
      refine sw_eq (ws' := [(a3, .inr (8, [.int 0, .int vs, .int vd, .int vr, .int vf, .int vw])), (a4, .inr (8, [.int ((-500)), .int ws, .int wd, .int wr, .int wf, .int ww])), (a1, .inr (8, [.int 0, .int ts, .int td, .int tr, .int tf, .int tw])), (h0, .inr (6, [.int tm, .int ch, .ref a1, .ref a2, .ref a3, .ref a4, .int rg, .int hd, .int df, .ref a5, .ref a8, .long fl, .long ms, .long vo, .ref a9, .ref a10, .ref a13, .ref a14, .ref a15, .ref a16])), (a2, .inr (8, [.int 0, .int us, .int ud, .int ur, .int uf, .int uw]))]) (lv' := [(2, .int 1), (1, .int 16), (0, .ref h0)]) (st' := [.int r_165]) rfl rfl rfl ?_
      refine sw_if_eq (pc := 29) (tgt := 38) F dX6_presentAlarms_29 (by decide) (fun c_169 => ?_) (fun c_169 => ?_)
      · skip
        refine sw_iinc (pc := 38) (v := 2) (lv' := [(2, .int 2), (1, .int 16), (0, .ref h0)]) F T.1 dX6_presentAlarms_38 (q := 0) rfl rfl (by decide) rfl ?_
        refine sw_goto (pc := 41) (tgt := 16) F dX6_presentAlarms_41 (by decide) ?_
        refine sw_iload_n (pc := 16) F dX6_presentAlarms_16 rfl 0 rfl ?_
        refine sw_iconst (pc := 17) (v := 4) F dX6_presentAlarms_17 rfl ?_
        refine sw_icmp_ge (pc := 18) (tgt := 44) F dX6_presentAlarms_18 (by decide) (fun c => absurd c (by decide)) (fun _ => ?_)
        refine sw_aload_n (pc := 21) F dX6_presentAlarms_21 rfl 2 rfl ?_
        refine sw_iload_n (pc := 22) F dX6_presentAlarms_22 rfl 0 rfl ?_
        refine sw_callr (pc := 23) (wr := [(a3, .inr (8, [.int 0, .int vs, .int vd, .int vr, .int vf, .int vw])), (a4, .inr (8, [.int ((-500)), .int ws, .int wd, .int wr, .int wf, .int ww])), (a1, .inr (8, [.int 0, .int ts, .int td, .int tr, .int tf, .int tw])), (a2, .inr (8, [.int 0, .int us, .int ud, .int ur, .int uf, .int uw]))]) (k' := 0) (n' := 0) F (sw_runV (R := ({ frames := 1, cells := 0, slots := 0, locals := 21 } : Room)) (q0 := 0) (na := 1) F T.2.1 T.2.2.1 (k_X6_transmitterAt_2 l G h0 a1 a2 a3 a4 a5 a8 a9 a10 a13 a14 a15 a16 tm ch rg hd df fl ms vo) [3] rfl (by decide) gX6_presentAlarms_X6_transmitterAt rfl rfl rfl (by decide +kernel) ⟨Nat.le_of_ble_eq_true rfl, Nat.le_of_ble_eq_true rfl⟩ rfl rfl rfl rfl rfl (Nat.le_of_ble_eq_true rfl) dX6_presentAlarms_23 (Nat.le_of_ble_eq_true rfl) (Nat.le_of_ble_eq_true rfl)) [3] [0, 1, 2, 4] rfl rfl (by decide) (by decide) rfl rfl (fun r_170 u_171 h_172 => ?_)
        have e_173 : r_170 = a3 := h_172
        refine sw_eqt (v := .ref a3) (by rw [e_173]) ?_
        refine sw_eq (ws' := [(a3, .inr (8, [.int 0, .int vs, .int vd, .int vr, .int vf, .int vw])), (a4, .inr (8, [.int ((-500)), .int ws, .int wd, .int wr, .int wf, .int ww])), (a1, .inr (8, [.int 0, .int ts, .int td, .int tr, .int tf, .int tw])), (a2, .inr (8, [.int 0, .int us, .int ud, .int ur, .int uf, .int uw])), (h0, .inr (6, [.int tm, .int ch, .ref a1, .ref a2, .ref a3, .ref a4, .int rg, .int hd, .int df, .ref a5, .ref a8, .long fl, .long ms, .long vo, .ref a9, .ref a10, .ref a13, .ref a14, .ref a15, .ref a16]))]) (lv' := [(2, .int 2), (1, .int 16), (0, .ref h0)]) (st' := [.ref a3]) rfl rfl rfl ?_
        refine sw_calli (pc := 26) (wr := [(a4, .inr (8, [.int ((-500)), .int ws, .int wd, .int wr, .int wf, .int ww])), (a1, .inr (8, [.int 0, .int ts, .int td, .int tr, .int tf, .int tw])), (a2, .inr (8, [.int 0, .int us, .int ud, .int ur, .int uf, .int uw])), (h0, .inr (6, [.int tm, .int ch, .ref a1, .ref a2, .ref a3, .ref a4, .int rg, .int hd, .int df, .ref a5, .ref a8, .long fl, .long ms, .long vo, .ref a9, .ref a10, .ref a13, .ref a14, .ref a15, .ref a16]))]) (k' := 0) (n' := 0) F (sw_runV (R := ({ frames := 1, cells := 0, slots := 0, locals := 21 } : Room)) (q0 := 0) (na := 0) F T.2.1 T.2.2.1 (k_X8_isFaulty l G a3 0 vs vd vr vf vw) [0] rfl (by decide) gX6_presentAlarms_X8_isFaulty rfl rfl rfl (by decide +kernel) ⟨Nat.le_of_ble_eq_true rfl, Nat.le_of_ble_eq_true rfl⟩ rfl rfl rfl rfl rfl (Nat.le_of_ble_eq_true rfl) dX6_presentAlarms_26 (Nat.le_of_ble_eq_true rfl) (Nat.le_of_ble_eq_true rfl)) [0] [1, 2, 3, 4] rfl rfl (by decide) (by decide) rfl rfl (fun r_174 u_175 h_176 => ?_)
        have e_177 : r_174 = f_X8_isFaulty_r vr := h_176
        refine sw_eq (ws' := [(a4, .inr (8, [.int ((-500)), .int ws, .int wd, .int wr, .int wf, .int ww])), (a1, .inr (8, [.int 0, .int ts, .int td, .int tr, .int tf, .int tw])), (a2, .inr (8, [.int 0, .int us, .int ud, .int ur, .int uf, .int uw])), (h0, .inr (6, [.int tm, .int ch, .ref a1, .ref a2, .ref a3, .ref a4, .int rg, .int hd, .int df, .ref a5, .ref a8, .long fl, .long ms, .long vo, .ref a9, .ref a10, .ref a13, .ref a14, .ref a15, .ref a16])), (a3, .inr (8, [.int 0, .int vs, .int vd, .int vr, .int vf, .int vw]))]) (lv' := [(2, .int 2), (1, .int 16), (0, .ref h0)]) (st' := [.int r_174]) rfl rfl rfl ?_
        refine sw_if_eq (pc := 29) (tgt := 38) F dX6_presentAlarms_29 (by decide) (fun c_178 => ?_) (fun c_178 => ?_)
        · skip
          refine sw_iinc (pc := 38) (v := 3) (lv' := [(2, .int 3), (1, .int 16), (0, .ref h0)]) F T.1 dX6_presentAlarms_38 (q := 0) rfl rfl (by decide) rfl ?_
          refine sw_goto (pc := 41) (tgt := 16) F dX6_presentAlarms_41 (by decide) ?_
          refine sw_iload_n (pc := 16) F dX6_presentAlarms_16 rfl 0 rfl ?_
          refine sw_iconst (pc := 17) (v := 4) F dX6_presentAlarms_17 rfl ?_
          refine sw_icmp_ge (pc := 18) (tgt := 44) F dX6_presentAlarms_18 (by decide) (fun c => absurd c (by decide)) (fun _ => ?_)
          refine sw_aload_n (pc := 21) F dX6_presentAlarms_21 rfl 2 rfl ?_
          refine sw_iload_n (pc := 22) F dX6_presentAlarms_22 rfl 0 rfl ?_
          refine sw_callr (pc := 23) (wr := [(a4, .inr (8, [.int ((-500)), .int ws, .int wd, .int wr, .int wf, .int ww])), (a1, .inr (8, [.int 0, .int ts, .int td, .int tr, .int tf, .int tw])), (a2, .inr (8, [.int 0, .int us, .int ud, .int ur, .int uf, .int uw])), (a3, .inr (8, [.int 0, .int vs, .int vd, .int vr, .int vf, .int vw]))]) (k' := 0) (n' := 0) F (sw_runV (R := ({ frames := 1, cells := 0, slots := 0, locals := 21 } : Room)) (q0 := 0) (na := 1) F T.2.1 T.2.2.1 (k_X6_transmitterAt_3 l G h0 a1 a2 a3 a4 a5 a8 a9 a10 a13 a14 a15 a16 tm ch rg hd df fl ms vo) [3] rfl (by decide) gX6_presentAlarms_X6_transmitterAt rfl rfl rfl (by decide +kernel) ⟨Nat.le_of_ble_eq_true rfl, Nat.le_of_ble_eq_true rfl⟩ rfl rfl rfl rfl rfl (Nat.le_of_ble_eq_true rfl) dX6_presentAlarms_23 (Nat.le_of_ble_eq_true rfl) (Nat.le_of_ble_eq_true rfl)) [3] [0, 1, 2, 4] rfl rfl (by decide) (by decide) rfl rfl (fun r_179 u_180 h_181 => ?_)
          have e_182 : r_179 = a4 := h_181
          refine sw_eqt (v := .ref a4) (by rw [e_182]) ?_
          refine sw_eq (ws' := [(a4, .inr (8, [.int ((-500)), .int ws, .int wd, .int wr, .int wf, .int ww])), (a1, .inr (8, [.int 0, .int ts, .int td, .int tr, .int tf, .int tw])), (a2, .inr (8, [.int 0, .int us, .int ud, .int ur, .int uf, .int uw])), (a3, .inr (8, [.int 0, .int vs, .int vd, .int vr, .int vf, .int vw])), (h0, .inr (6, [.int tm, .int ch, .ref a1, .ref a2, .ref a3, .ref a4, .int rg, .int hd, .int df, .ref a5, .ref a8, .long fl, .long ms, .long vo, .ref a9, .ref a10, .ref a13, .ref a14, .ref a15, .ref a16]))]) (lv' := [(2, .int 3), (1, .int 16), (0, .ref h0)]) (st' := [.ref a4]) rfl rfl rfl ?_
          refine sw_calli (pc := 26) (wr := [(a1, .inr (8, [.int 0, .int ts, .int td, .int tr, .int tf, .int tw])), (a2, .inr (8, [.int 0, .int us, .int ud, .int ur, .int uf, .int uw])), (a3, .inr (8, [.int 0, .int vs, .int vd, .int vr, .int vf, .int vw])), (h0, .inr (6, [.int tm, .int ch, .ref a1, .ref a2, .ref a3, .ref a4, .int rg, .int hd, .int df, .ref a5, .ref a8, .long fl, .long ms, .long vo, .ref a9, .ref a10, .ref a13, .ref a14, .ref a15, .ref a16]))]) (k' := 0) (n' := 0) F (sw_runV (R := ({ frames := 1, cells := 0, slots := 0, locals := 21 } : Room)) (q0 := 0) (na := 0) F T.2.1 T.2.2.1 (k_X8_isFaulty l G a4 (-500) ws wd wr wf ww) [0] rfl (by decide) gX6_presentAlarms_X8_isFaulty rfl rfl rfl (by decide +kernel) ⟨Nat.le_of_ble_eq_true rfl, Nat.le_of_ble_eq_true rfl⟩ rfl rfl rfl rfl rfl (Nat.le_of_ble_eq_true rfl) dX6_presentAlarms_26 (Nat.le_of_ble_eq_true rfl) (Nat.le_of_ble_eq_true rfl)) [0] [1, 2, 3, 4] rfl rfl (by decide) (by decide) rfl rfl (fun r_183 u_184 h_185 => ?_)
          have e_186 : r_183 = f_X8_isFaulty_r wr := h_185
          refine sw_eq (ws' := [(a1, .inr (8, [.int 0, .int ts, .int td, .int tr, .int tf, .int tw])), (a2, .inr (8, [.int 0, .int us, .int ud, .int ur, .int uf, .int uw])), (a3, .inr (8, [.int 0, .int vs, .int vd, .int vr, .int vf, .int vw])), (h0, .inr (6, [.int tm, .int ch, .ref a1, .ref a2, .ref a3, .ref a4, .int rg, .int hd, .int df, .ref a5, .ref a8, .long fl, .long ms, .long vo, .ref a9, .ref a10, .ref a13, .ref a14, .ref a15, .ref a16])), (a4, .inr (8, [.int ((-500)), .int ws, .int wd, .int wr, .int wf, .int ww]))]) (lv' := [(2, .int 3), (1, .int 16), (0, .ref h0)]) (st' := [.int r_183]) rfl rfl rfl ?_
          refine sw_if_eq (pc := 29) (tgt := 38) F dX6_presentAlarms_29 (by decide) (fun c_187 => ?_) (fun c_187 => ?_)
          · skip
            refine sw_iinc (pc := 38) (v := 4) (lv' := [(2, .int 4), (1, .int 16), (0, .ref h0)]) F T.1 dX6_presentAlarms_38 (q := 0) rfl rfl (by decide) rfl ?_
            refine sw_goto (pc := 41) (tgt := 16) F dX6_presentAlarms_41 (by decide) ?_
            refine sw_iload_n (pc := 16) F dX6_presentAlarms_16 rfl 0 rfl ?_
            refine sw_iconst (pc := 17) (v := 4) F dX6_presentAlarms_17 rfl ?_
            refine sw_icmp_ge (pc := 18) (tgt := 44) F dX6_presentAlarms_18 (by decide) (fun _ => ?_) (fun c => absurd c (by decide))
            refine sw_iload_n (pc := 44) F dX6_presentAlarms_44 rfl 1 rfl ?_
            subst e_186
            subst e_177
            subst e_168
            subst e_159
            refine sw_perm (ws' := [(h0, .inr (6, [.int tm, .int ch, .ref a1, .ref a2, .ref a3, .ref a4, .int rg, .int hd, .int df, .ref a5, .ref a8, .long fl, .long ms, .long vo, .ref a9, .ref a10, .ref a13, .ref a14, .ref a15, .ref a16])), (a1, .inr (8, [.int 0, .int ts, .int td, .int tr, .int tf, .int tw])), (a2, .inr (8, [.int 0, .int us, .int ud, .int ur, .int uf, .int uw])), (a3, .inr (8, [.int 0, .int vs, .int vd, .int vr, .int vf, .int vw])), (a4, .inr (8, [.int ((-500)), .int ws, .int wd, .int wr, .int wf, .int ww]))]) [3, 0, 1, 2, 4] (by decide) rfl ?_
            exact sw_iret (pc := 45) F T rfl rfl () (by unfold f_X6_presentAlarms_r; rw [if_neg c_1, if_pos c_160, if_pos c_169, if_pos c_178, if_pos c_187]) rfl dX6_presentAlarms_45
          · skip
            refine sw_iload_n (pc := 32) F dX6_presentAlarms_32 rfl 1 rfl ?_
            refine sw_iconst (pc := 33) (v := 1) F dX6_presentAlarms_33 rfl ?_
            refine sw_iload_n (pc := 34) F dX6_presentAlarms_34 rfl 0 rfl ?_
            refine sw_ishl (pc := 35) F dX6_presentAlarms_35 ?_
            refine sw_eqt (v := .int 8) (by rfl) ?_
            refine sw_ior (pc := 36) F dX6_presentAlarms_36 ?_
            refine sw_topi (fun x_188 ex_188 => ?_)
            refine sw_istore_n (pc := 37) (lv' := [(1, .int x_188), (2, .int 3), (0, .ref h0)]) F T.1 dX6_presentAlarms_37 rfl (by decide) rfl ?_
            refine sw_iinc (pc := 38) (v := 4) (lv' := [(2, .int 4), (1, .int x_188), (0, .ref h0)]) F T.1 dX6_presentAlarms_38 (q := 1) rfl rfl (by decide) rfl ?_
            refine sw_goto (pc := 41) (tgt := 16) F dX6_presentAlarms_41 (by decide) ?_
            refine sw_iload_n (pc := 16) F dX6_presentAlarms_16 rfl 0 rfl ?_
            refine sw_iconst (pc := 17) (v := 4) F dX6_presentAlarms_17 rfl ?_
            refine sw_icmp_ge (pc := 18) (tgt := 44) F dX6_presentAlarms_18 (by decide) (fun _ => ?_) (fun c => absurd c (by decide))
            refine sw_iload_n (pc := 44) F dX6_presentAlarms_44 rfl 1 rfl ?_
            subst ex_188
            subst e_186
            subst e_177
            subst e_168
            subst e_159
            refine sw_perm (ws' := [(h0, .inr (6, [.int tm, .int ch, .ref a1, .ref a2, .ref a3, .ref a4, .int rg, .int hd, .int df, .ref a5, .ref a8, .long fl, .long ms, .long vo, .ref a9, .ref a10, .ref a13, .ref a14, .ref a15, .ref a16])), (a1, .inr (8, [.int 0, .int ts, .int td, .int tr, .int tf, .int tw])), (a2, .inr (8, [.int 0, .int us, .int ud, .int ur, .int uf, .int uw])), (a3, .inr (8, [.int 0, .int vs, .int vd, .int vr, .int vf, .int vw])), (a4, .inr (8, [.int ((-500)), .int ws, .int wd, .int wr, .int wf, .int ww]))]) [3, 0, 1, 2, 4] (by decide) rfl ?_
            exact sw_iret (pc := 45) F T rfl rfl () (by unfold f_X6_presentAlarms_r; rw [if_neg c_1, if_pos c_160, if_pos c_169, if_pos c_178, if_neg c_187]) rfl dX6_presentAlarms_45
        · skip
          refine sw_iload_n (pc := 32) F dX6_presentAlarms_32 rfl 1 rfl ?_
          refine sw_iconst (pc := 33) (v := 1) F dX6_presentAlarms_33 rfl ?_
          refine sw_iload_n (pc := 34) F dX6_presentAlarms_34 rfl 0 rfl ?_
          refine sw_ishl (pc := 35) F dX6_presentAlarms_35 ?_
          refine sw_eqt (v := .int 4) (by rfl) ?_
          refine sw_ior (pc := 36) F dX6_presentAlarms_36 ?_
          refine sw_topi (fun x_189 ex_189 => ?_)
          refine sw_istore_n (pc := 37) (lv' := [(1, .int x_189), (2, .int 2), (0, .ref h0)]) F T.1 dX6_presentAlarms_37 rfl (by decide) rfl ?_
          refine sw_iinc (pc := 38) (v := 3) (lv' := [(2, .int 3), (1, .int x_189), (0, .ref h0)]) F T.1 dX6_presentAlarms_38 (q := 1) rfl rfl (by decide) rfl ?_
          refine sw_goto (pc := 41) (tgt := 16) F dX6_presentAlarms_41 (by decide) ?_
          refine sw_iload_n (pc := 16) F dX6_presentAlarms_16 rfl 0 rfl ?_
          refine sw_iconst (pc := 17) (v := 4) F dX6_presentAlarms_17 rfl ?_
          refine sw_icmp_ge (pc := 18) (tgt := 44) F dX6_presentAlarms_18 (by decide) (fun c => absurd c (by decide)) (fun _ => ?_)
          refine sw_aload_n (pc := 21) F dX6_presentAlarms_21 rfl 2 rfl ?_
          refine sw_iload_n (pc := 22) F dX6_presentAlarms_22 rfl 0 rfl ?_
          refine sw_callr (pc := 23) (wr := [(a4, .inr (8, [.int ((-500)), .int ws, .int wd, .int wr, .int wf, .int ww])), (a1, .inr (8, [.int 0, .int ts, .int td, .int tr, .int tf, .int tw])), (a2, .inr (8, [.int 0, .int us, .int ud, .int ur, .int uf, .int uw])), (a3, .inr (8, [.int 0, .int vs, .int vd, .int vr, .int vf, .int vw]))]) (k' := 0) (n' := 0) F (sw_runV (R := ({ frames := 1, cells := 0, slots := 0, locals := 21 } : Room)) (q0 := 0) (na := 1) F T.2.1 T.2.2.1 (k_X6_transmitterAt_3 l G h0 a1 a2 a3 a4 a5 a8 a9 a10 a13 a14 a15 a16 tm ch rg hd df fl ms vo) [3] rfl (by decide) gX6_presentAlarms_X6_transmitterAt rfl rfl rfl (by decide +kernel) ⟨Nat.le_of_ble_eq_true rfl, Nat.le_of_ble_eq_true rfl⟩ rfl rfl rfl rfl rfl (Nat.le_of_ble_eq_true rfl) dX6_presentAlarms_23 (Nat.le_of_ble_eq_true rfl) (Nat.le_of_ble_eq_true rfl)) [3] [0, 1, 2, 4] rfl rfl (by decide) (by decide) rfl rfl (fun r_190 u_191 h_192 => ?_)
          have e_193 : r_190 = a4 := h_192
          refine sw_eqt (v := .ref a4) (by rw [e_193]) ?_
          refine sw_eq (ws' := [(a4, .inr (8, [.int ((-500)), .int ws, .int wd, .int wr, .int wf, .int ww])), (a1, .inr (8, [.int 0, .int ts, .int td, .int tr, .int tf, .int tw])), (a2, .inr (8, [.int 0, .int us, .int ud, .int ur, .int uf, .int uw])), (a3, .inr (8, [.int 0, .int vs, .int vd, .int vr, .int vf, .int vw])), (h0, .inr (6, [.int tm, .int ch, .ref a1, .ref a2, .ref a3, .ref a4, .int rg, .int hd, .int df, .ref a5, .ref a8, .long fl, .long ms, .long vo, .ref a9, .ref a10, .ref a13, .ref a14, .ref a15, .ref a16]))]) (lv' := [(2, .int 3), (1, .int x_189), (0, .ref h0)]) (st' := [.ref a4]) rfl rfl rfl ?_
          refine sw_calli (pc := 26) (wr := [(a1, .inr (8, [.int 0, .int ts, .int td, .int tr, .int tf, .int tw])), (a2, .inr (8, [.int 0, .int us, .int ud, .int ur, .int uf, .int uw])), (a3, .inr (8, [.int 0, .int vs, .int vd, .int vr, .int vf, .int vw])), (h0, .inr (6, [.int tm, .int ch, .ref a1, .ref a2, .ref a3, .ref a4, .int rg, .int hd, .int df, .ref a5, .ref a8, .long fl, .long ms, .long vo, .ref a9, .ref a10, .ref a13, .ref a14, .ref a15, .ref a16]))]) (k' := 0) (n' := 0) F (sw_runV (R := ({ frames := 1, cells := 0, slots := 0, locals := 21 } : Room)) (q0 := 0) (na := 0) F T.2.1 T.2.2.1 (k_X8_isFaulty l G a4 (-500) ws wd wr wf ww) [0] rfl (by decide) gX6_presentAlarms_X8_isFaulty rfl rfl rfl (by decide +kernel) ⟨Nat.le_of_ble_eq_true rfl, Nat.le_of_ble_eq_true rfl⟩ rfl rfl rfl rfl rfl (Nat.le_of_ble_eq_true rfl) dX6_presentAlarms_26 (Nat.le_of_ble_eq_true rfl) (Nat.le_of_ble_eq_true rfl)) [0] [1, 2, 3, 4] rfl rfl (by decide) (by decide) rfl rfl (fun r_194 u_195 h_196 => ?_)
          have e_197 : r_194 = f_X8_isFaulty_r wr := h_196
          refine sw_eq (ws' := [(a1, .inr (8, [.int 0, .int ts, .int td, .int tr, .int tf, .int tw])), (a2, .inr (8, [.int 0, .int us, .int ud, .int ur, .int uf, .int uw])), (a3, .inr (8, [.int 0, .int vs, .int vd, .int vr, .int vf, .int vw])), (h0, .inr (6, [.int tm, .int ch, .ref a1, .ref a2, .ref a3, .ref a4, .int rg, .int hd, .int df, .ref a5, .ref a8, .long fl, .long ms, .long vo, .ref a9, .ref a10, .ref a13, .ref a14, .ref a15, .ref a16])), (a4, .inr (8, [.int ((-500)), .int ws, .int wd, .int wr, .int wf, .int ww]))]) (lv' := [(2, .int 3), (1, .int x_189), (0, .ref h0)]) (st' := [.int r_194]) rfl rfl rfl ?_
          refine sw_if_eq (pc := 29) (tgt := 38) F dX6_presentAlarms_29 (by decide) (fun c_198 => ?_) (fun c_198 => ?_)
          · skip
            refine sw_iinc (pc := 38) (v := 4) (lv' := [(2, .int 4), (1, .int x_189), (0, .ref h0)]) F T.1 dX6_presentAlarms_38 (q := 0) rfl rfl (by decide) rfl ?_
            refine sw_goto (pc := 41) (tgt := 16) F dX6_presentAlarms_41 (by decide) ?_
            refine sw_iload_n (pc := 16) F dX6_presentAlarms_16 rfl 0 rfl ?_
            refine sw_iconst (pc := 17) (v := 4) F dX6_presentAlarms_17 rfl ?_
            refine sw_icmp_ge (pc := 18) (tgt := 44) F dX6_presentAlarms_18 (by decide) (fun _ => ?_) (fun c => absurd c (by decide))
            refine sw_iload_n (pc := 44) F dX6_presentAlarms_44 rfl 1 rfl ?_
            subst e_197
            subst ex_189
            subst e_177
            subst e_168
            subst e_159
            refine sw_perm (ws' := [(h0, .inr (6, [.int tm, .int ch, .ref a1, .ref a2, .ref a3, .ref a4, .int rg, .int hd, .int df, .ref a5, .ref a8, .long fl, .long ms, .long vo, .ref a9, .ref a10, .ref a13, .ref a14, .ref a15, .ref a16])), (a1, .inr (8, [.int 0, .int ts, .int td, .int tr, .int tf, .int tw])), (a2, .inr (8, [.int 0, .int us, .int ud, .int ur, .int uf, .int uw])), (a3, .inr (8, [.int 0, .int vs, .int vd, .int vr, .int vf, .int vw])), (a4, .inr (8, [.int ((-500)), .int ws, .int wd, .int wr, .int wf, .int ww]))]) [3, 0, 1, 2, 4] (by decide) rfl ?_
            exact sw_iret (pc := 45) F T rfl rfl () (by unfold f_X6_presentAlarms_r; rw [if_neg c_1, if_pos c_160, if_pos c_169, if_neg c_178, if_pos c_198]) rfl dX6_presentAlarms_45
          · skip
            refine sw_iload_n (pc := 32) F dX6_presentAlarms_32 rfl 1 rfl ?_
            refine sw_iconst (pc := 33) (v := 1) F dX6_presentAlarms_33 rfl ?_
            refine sw_iload_n (pc := 34) F dX6_presentAlarms_34 rfl 0 rfl ?_
            refine sw_ishl (pc := 35) F dX6_presentAlarms_35 ?_
            refine sw_eqt (v := .int 8) (by rfl) ?_
            refine sw_ior (pc := 36) F dX6_presentAlarms_36 ?_
            refine sw_topi (fun x_199 ex_199 => ?_)
            refine sw_istore_n (pc := 37) (lv' := [(1, .int x_199), (2, .int 3), (0, .ref h0)]) F T.1 dX6_presentAlarms_37 rfl (by decide) rfl ?_
            refine sw_iinc (pc := 38) (v := 4) (lv' := [(2, .int 4), (1, .int x_199), (0, .ref h0)]) F T.1 dX6_presentAlarms_38 (q := 1) rfl rfl (by decide) rfl ?_
            refine sw_goto (pc := 41) (tgt := 16) F dX6_presentAlarms_41 (by decide) ?_
            refine sw_iload_n (pc := 16) F dX6_presentAlarms_16 rfl 0 rfl ?_
            refine sw_iconst (pc := 17) (v := 4) F dX6_presentAlarms_17 rfl ?_
            refine sw_icmp_ge (pc := 18) (tgt := 44) F dX6_presentAlarms_18 (by decide) (fun _ => ?_) (fun c => absurd c (by decide))
            refine sw_iload_n (pc := 44) F dX6_presentAlarms_44 rfl 1 rfl ?_
            subst ex_199
            subst e_197
            subst ex_189
            subst e_177
            subst e_168
            subst e_159
            refine sw_perm (ws' := [(h0, .inr (6, [.int tm, .int ch, .ref a1, .ref a2, .ref a3, .ref a4, .int rg, .int hd, .int df, .ref a5, .ref a8, .long fl, .long ms, .long vo, .ref a9, .ref a10, .ref a13, .ref a14, .ref a15, .ref a16])), (a1, .inr (8, [.int 0, .int ts, .int td, .int tr, .int tf, .int tw])), (a2, .inr (8, [.int 0, .int us, .int ud, .int ur, .int uf, .int uw])), (a3, .inr (8, [.int 0, .int vs, .int vd, .int vr, .int vf, .int vw])), (a4, .inr (8, [.int ((-500)), .int ws, .int wd, .int wr, .int wf, .int ww]))]) [3, 0, 1, 2, 4] (by decide) rfl ?_
            exact sw_iret (pc := 45) F T rfl rfl () (by unfold f_X6_presentAlarms_r; rw [if_neg c_1, if_pos c_160, if_pos c_169, if_neg c_178, if_neg c_198]) rfl dX6_presentAlarms_45
      · skip
        refine sw_iload_n (pc := 32) F dX6_presentAlarms_32 rfl 1 rfl ?_
        refine sw_iconst (pc := 33) (v := 1) F dX6_presentAlarms_33 rfl ?_
        refine sw_iload_n (pc := 34) F dX6_presentAlarms_34 rfl 0 rfl ?_
        refine sw_ishl (pc := 35) F dX6_presentAlarms_35 ?_
        refine sw_eqt (v := .int 2) (by rfl) ?_
        refine sw_ior (pc := 36) F dX6_presentAlarms_36 ?_
        refine sw_topi (fun x_200 ex_200 => ?_)
        refine sw_istore_n (pc := 37) (lv' := [(1, .int x_200), (2, .int 1), (0, .ref h0)]) F T.1 dX6_presentAlarms_37 rfl (by decide) rfl ?_
        refine sw_iinc (pc := 38) (v := 2) (lv' := [(2, .int 2), (1, .int x_200), (0, .ref h0)]) F T.1 dX6_presentAlarms_38 (q := 1) rfl rfl (by decide) rfl ?_
        refine sw_goto (pc := 41) (tgt := 16) F dX6_presentAlarms_41 (by decide) ?_
        refine sw_iload_n (pc := 16) F dX6_presentAlarms_16 rfl 0 rfl ?_
        refine sw_iconst (pc := 17) (v := 4) F dX6_presentAlarms_17 rfl ?_
        refine sw_icmp_ge (pc := 18) (tgt := 44) F dX6_presentAlarms_18 (by decide) (fun c => absurd c (by decide)) (fun _ => ?_)
        refine sw_aload_n (pc := 21) F dX6_presentAlarms_21 rfl 2 rfl ?_
        refine sw_iload_n (pc := 22) F dX6_presentAlarms_22 rfl 0 rfl ?_
        refine sw_callr (pc := 23) (wr := [(a3, .inr (8, [.int 0, .int vs, .int vd, .int vr, .int vf, .int vw])), (a4, .inr (8, [.int ((-500)), .int ws, .int wd, .int wr, .int wf, .int ww])), (a1, .inr (8, [.int 0, .int ts, .int td, .int tr, .int tf, .int tw])), (a2, .inr (8, [.int 0, .int us, .int ud, .int ur, .int uf, .int uw]))]) (k' := 0) (n' := 0) F (sw_runV (R := ({ frames := 1, cells := 0, slots := 0, locals := 21 } : Room)) (q0 := 0) (na := 1) F T.2.1 T.2.2.1 (k_X6_transmitterAt_2 l G h0 a1 a2 a3 a4 a5 a8 a9 a10 a13 a14 a15 a16 tm ch rg hd df fl ms vo) [3] rfl (by decide) gX6_presentAlarms_X6_transmitterAt rfl rfl rfl (by decide +kernel) ⟨Nat.le_of_ble_eq_true rfl, Nat.le_of_ble_eq_true rfl⟩ rfl rfl rfl rfl rfl (Nat.le_of_ble_eq_true rfl) dX6_presentAlarms_23 (Nat.le_of_ble_eq_true rfl) (Nat.le_of_ble_eq_true rfl)) [3] [0, 1, 2, 4] rfl rfl (by decide) (by decide) rfl rfl (fun r_201 u_202 h_203 => ?_)
        have e_204 : r_201 = a3 := h_203
        refine sw_eqt (v := .ref a3) (by rw [e_204]) ?_
        refine sw_eq (ws' := [(a3, .inr (8, [.int 0, .int vs, .int vd, .int vr, .int vf, .int vw])), (a4, .inr (8, [.int ((-500)), .int ws, .int wd, .int wr, .int wf, .int ww])), (a1, .inr (8, [.int 0, .int ts, .int td, .int tr, .int tf, .int tw])), (a2, .inr (8, [.int 0, .int us, .int ud, .int ur, .int uf, .int uw])), (h0, .inr (6, [.int tm, .int ch, .ref a1, .ref a2, .ref a3, .ref a4, .int rg, .int hd, .int df, .ref a5, .ref a8, .long fl, .long ms, .long vo, .ref a9, .ref a10, .ref a13, .ref a14, .ref a15, .ref a16]))]) (lv' := [(2, .int 2), (1, .int x_200), (0, .ref h0)]) (st' := [.ref a3]) rfl rfl rfl ?_
        refine sw_calli (pc := 26) (wr := [(a4, .inr (8, [.int ((-500)), .int ws, .int wd, .int wr, .int wf, .int ww])), (a1, .inr (8, [.int 0, .int ts, .int td, .int tr, .int tf, .int tw])), (a2, .inr (8, [.int 0, .int us, .int ud, .int ur, .int uf, .int uw])), (h0, .inr (6, [.int tm, .int ch, .ref a1, .ref a2, .ref a3, .ref a4, .int rg, .int hd, .int df, .ref a5, .ref a8, .long fl, .long ms, .long vo, .ref a9, .ref a10, .ref a13, .ref a14, .ref a15, .ref a16]))]) (k' := 0) (n' := 0) F (sw_runV (R := ({ frames := 1, cells := 0, slots := 0, locals := 21 } : Room)) (q0 := 0) (na := 0) F T.2.1 T.2.2.1 (k_X8_isFaulty l G a3 0 vs vd vr vf vw) [0] rfl (by decide) gX6_presentAlarms_X8_isFaulty rfl rfl rfl (by decide +kernel) ⟨Nat.le_of_ble_eq_true rfl, Nat.le_of_ble_eq_true rfl⟩ rfl rfl rfl rfl rfl (Nat.le_of_ble_eq_true rfl) dX6_presentAlarms_26 (Nat.le_of_ble_eq_true rfl) (Nat.le_of_ble_eq_true rfl)) [0] [1, 2, 3, 4] rfl rfl (by decide) (by decide) rfl rfl (fun r_205 u_206 h_207 => ?_)
        have e_208 : r_205 = f_X8_isFaulty_r vr := h_207
        refine sw_eq (ws' := [(a4, .inr (8, [.int ((-500)), .int ws, .int wd, .int wr, .int wf, .int ww])), (a1, .inr (8, [.int 0, .int ts, .int td, .int tr, .int tf, .int tw])), (a2, .inr (8, [.int 0, .int us, .int ud, .int ur, .int uf, .int uw])), (h0, .inr (6, [.int tm, .int ch, .ref a1, .ref a2, .ref a3, .ref a4, .int rg, .int hd, .int df, .ref a5, .ref a8, .long fl, .long ms, .long vo, .ref a9, .ref a10, .ref a13, .ref a14, .ref a15, .ref a16])), (a3, .inr (8, [.int 0, .int vs, .int vd, .int vr, .int vf, .int vw]))]) (lv' := [(2, .int 2), (1, .int x_200), (0, .ref h0)]) (st' := [.int r_205]) rfl rfl rfl ?_
        refine sw_if_eq (pc := 29) (tgt := 38) F dX6_presentAlarms_29 (by decide) (fun c_209 => ?_) (fun c_209 => ?_)
        · skip
          refine sw_iinc (pc := 38) (v := 3) (lv' := [(2, .int 3), (1, .int x_200), (0, .ref h0)]) F T.1 dX6_presentAlarms_38 (q := 0) rfl rfl (by decide) rfl ?_
          refine sw_goto (pc := 41) (tgt := 16) F dX6_presentAlarms_41 (by decide) ?_
          refine sw_iload_n (pc := 16) F dX6_presentAlarms_16 rfl 0 rfl ?_
          refine sw_iconst (pc := 17) (v := 4) F dX6_presentAlarms_17 rfl ?_
          refine sw_icmp_ge (pc := 18) (tgt := 44) F dX6_presentAlarms_18 (by decide) (fun c => absurd c (by decide)) (fun _ => ?_)
          refine sw_aload_n (pc := 21) F dX6_presentAlarms_21 rfl 2 rfl ?_
          refine sw_iload_n (pc := 22) F dX6_presentAlarms_22 rfl 0 rfl ?_
          refine sw_callr (pc := 23) (wr := [(a4, .inr (8, [.int ((-500)), .int ws, .int wd, .int wr, .int wf, .int ww])), (a1, .inr (8, [.int 0, .int ts, .int td, .int tr, .int tf, .int tw])), (a2, .inr (8, [.int 0, .int us, .int ud, .int ur, .int uf, .int uw])), (a3, .inr (8, [.int 0, .int vs, .int vd, .int vr, .int vf, .int vw]))]) (k' := 0) (n' := 0) F (sw_runV (R := ({ frames := 1, cells := 0, slots := 0, locals := 21 } : Room)) (q0 := 0) (na := 1) F T.2.1 T.2.2.1 (k_X6_transmitterAt_3 l G h0 a1 a2 a3 a4 a5 a8 a9 a10 a13 a14 a15 a16 tm ch rg hd df fl ms vo) [3] rfl (by decide) gX6_presentAlarms_X6_transmitterAt rfl rfl rfl (by decide +kernel) ⟨Nat.le_of_ble_eq_true rfl, Nat.le_of_ble_eq_true rfl⟩ rfl rfl rfl rfl rfl (Nat.le_of_ble_eq_true rfl) dX6_presentAlarms_23 (Nat.le_of_ble_eq_true rfl) (Nat.le_of_ble_eq_true rfl)) [3] [0, 1, 2, 4] rfl rfl (by decide) (by decide) rfl rfl (fun r_210 u_211 h_212 => ?_)
          have e_213 : r_210 = a4 := h_212
          refine sw_eqt (v := .ref a4) (by rw [e_213]) ?_
          refine sw_eq (ws' := [(a4, .inr (8, [.int ((-500)), .int ws, .int wd, .int wr, .int wf, .int ww])), (a1, .inr (8, [.int 0, .int ts, .int td, .int tr, .int tf, .int tw])), (a2, .inr (8, [.int 0, .int us, .int ud, .int ur, .int uf, .int uw])), (a3, .inr (8, [.int 0, .int vs, .int vd, .int vr, .int vf, .int vw])), (h0, .inr (6, [.int tm, .int ch, .ref a1, .ref a2, .ref a3, .ref a4, .int rg, .int hd, .int df, .ref a5, .ref a8, .long fl, .long ms, .long vo, .ref a9, .ref a10, .ref a13, .ref a14, .ref a15, .ref a16]))]) (lv' := [(2, .int 3), (1, .int x_200), (0, .ref h0)]) (st' := [.ref a4]) rfl rfl rfl ?_
          refine sw_calli (pc := 26) (wr := [(a1, .inr (8, [.int 0, .int ts, .int td, .int tr, .int tf, .int tw])), (a2, .inr (8, [.int 0, .int us, .int ud, .int ur, .int uf, .int uw])), (a3, .inr (8, [.int 0, .int vs, .int vd, .int vr, .int vf, .int vw])), (h0, .inr (6, [.int tm, .int ch, .ref a1, .ref a2, .ref a3, .ref a4, .int rg, .int hd, .int df, .ref a5, .ref a8, .long fl, .long ms, .long vo, .ref a9, .ref a10, .ref a13, .ref a14, .ref a15, .ref a16]))]) (k' := 0) (n' := 0) F (sw_runV (R := ({ frames := 1, cells := 0, slots := 0, locals := 21 } : Room)) (q0 := 0) (na := 0) F T.2.1 T.2.2.1 (k_X8_isFaulty l G a4 (-500) ws wd wr wf ww) [0] rfl (by decide) gX6_presentAlarms_X8_isFaulty rfl rfl rfl (by decide +kernel) ⟨Nat.le_of_ble_eq_true rfl, Nat.le_of_ble_eq_true rfl⟩ rfl rfl rfl rfl rfl (Nat.le_of_ble_eq_true rfl) dX6_presentAlarms_26 (Nat.le_of_ble_eq_true rfl) (Nat.le_of_ble_eq_true rfl)) [0] [1, 2, 3, 4] rfl rfl (by decide) (by decide) rfl rfl (fun r_214 u_215 h_216 => ?_)
          have e_217 : r_214 = f_X8_isFaulty_r wr := h_216
          refine sw_eq (ws' := [(a1, .inr (8, [.int 0, .int ts, .int td, .int tr, .int tf, .int tw])), (a2, .inr (8, [.int 0, .int us, .int ud, .int ur, .int uf, .int uw])), (a3, .inr (8, [.int 0, .int vs, .int vd, .int vr, .int vf, .int vw])), (h0, .inr (6, [.int tm, .int ch, .ref a1, .ref a2, .ref a3, .ref a4, .int rg, .int hd, .int df, .ref a5, .ref a8, .long fl, .long ms, .long vo, .ref a9, .ref a10, .ref a13, .ref a14, .ref a15, .ref a16])), (a4, .inr (8, [.int ((-500)), .int ws, .int wd, .int wr, .int wf, .int ww]))]) (lv' := [(2, .int 3), (1, .int x_200), (0, .ref h0)]) (st' := [.int r_214]) rfl rfl rfl ?_
          refine sw_if_eq (pc := 29) (tgt := 38) F dX6_presentAlarms_29 (by decide) (fun c_218 => ?_) (fun c_218 => ?_)
          · skip
            refine sw_iinc (pc := 38) (v := 4) (lv' := [(2, .int 4), (1, .int x_200), (0, .ref h0)]) F T.1 dX6_presentAlarms_38 (q := 0) rfl rfl (by decide) rfl ?_
            refine sw_goto (pc := 41) (tgt := 16) F dX6_presentAlarms_41 (by decide) ?_
            refine sw_iload_n (pc := 16) F dX6_presentAlarms_16 rfl 0 rfl ?_
            refine sw_iconst (pc := 17) (v := 4) F dX6_presentAlarms_17 rfl ?_
            refine sw_icmp_ge (pc := 18) (tgt := 44) F dX6_presentAlarms_18 (by decide) (fun _ => ?_) (fun c => absurd c (by decide))
            refine sw_iload_n (pc := 44) F dX6_presentAlarms_44 rfl 1 rfl ?_
            subst e_217
            subst e_208
            subst ex_200
            subst e_168
            subst e_159
            refine sw_perm (ws' := [(h0, .inr (6, [.int tm, .int ch, .ref a1, .ref a2, .ref a3, .ref a4, .int rg, .int hd, .int df, .ref a5, .ref a8, .long fl, .long ms, .long vo, .ref a9, .ref a10, .ref a13, .ref a14, .ref a15, .ref a16])), (a1, .inr (8, [.int 0, .int ts, .int td, .int tr, .int tf, .int tw])), (a2, .inr (8, [.int 0, .int us, .int ud, .int ur, .int uf, .int uw])), (a3, .inr (8, [.int 0, .int vs, .int vd, .int vr, .int vf, .int vw])), (a4, .inr (8, [.int ((-500)), .int ws, .int wd, .int wr, .int wf, .int ww]))]) [3, 0, 1, 2, 4] (by decide) rfl ?_
            exact sw_iret (pc := 45) F T rfl rfl () (by unfold f_X6_presentAlarms_r; rw [if_neg c_1, if_pos c_160, if_neg c_169, if_pos c_209, if_pos c_218]) rfl dX6_presentAlarms_45
          · skip
            refine sw_iload_n (pc := 32) F dX6_presentAlarms_32 rfl 1 rfl ?_
            refine sw_iconst (pc := 33) (v := 1) F dX6_presentAlarms_33 rfl ?_
            refine sw_iload_n (pc := 34) F dX6_presentAlarms_34 rfl 0 rfl ?_
            refine sw_ishl (pc := 35) F dX6_presentAlarms_35 ?_
            refine sw_eqt (v := .int 8) (by rfl) ?_
            refine sw_ior (pc := 36) F dX6_presentAlarms_36 ?_
            refine sw_topi (fun x_219 ex_219 => ?_)
            refine sw_istore_n (pc := 37) (lv' := [(1, .int x_219), (2, .int 3), (0, .ref h0)]) F T.1 dX6_presentAlarms_37 rfl (by decide) rfl ?_
            refine sw_iinc (pc := 38) (v := 4) (lv' := [(2, .int 4), (1, .int x_219), (0, .ref h0)]) F T.1 dX6_presentAlarms_38 (q := 1) rfl rfl (by decide) rfl ?_
            refine sw_goto (pc := 41) (tgt := 16) F dX6_presentAlarms_41 (by decide) ?_
            refine sw_iload_n (pc := 16) F dX6_presentAlarms_16 rfl 0 rfl ?_
            refine sw_iconst (pc := 17) (v := 4) F dX6_presentAlarms_17 rfl ?_
            refine sw_icmp_ge (pc := 18) (tgt := 44) F dX6_presentAlarms_18 (by decide) (fun _ => ?_) (fun c => absurd c (by decide))
            refine sw_iload_n (pc := 44) F dX6_presentAlarms_44 rfl 1 rfl ?_
            subst ex_219
            subst e_217
            subst e_208
            subst ex_200
            subst e_168
            subst e_159
            refine sw_perm (ws' := [(h0, .inr (6, [.int tm, .int ch, .ref a1, .ref a2, .ref a3, .ref a4, .int rg, .int hd, .int df, .ref a5, .ref a8, .long fl, .long ms, .long vo, .ref a9, .ref a10, .ref a13, .ref a14, .ref a15, .ref a16])), (a1, .inr (8, [.int 0, .int ts, .int td, .int tr, .int tf, .int tw])), (a2, .inr (8, [.int 0, .int us, .int ud, .int ur, .int uf, .int uw])), (a3, .inr (8, [.int 0, .int vs, .int vd, .int vr, .int vf, .int vw])), (a4, .inr (8, [.int ((-500)), .int ws, .int wd, .int wr, .int wf, .int ww]))]) [3, 0, 1, 2, 4] (by decide) rfl ?_
            exact sw_iret (pc := 45) F T rfl rfl () (by unfold f_X6_presentAlarms_r; rw [if_neg c_1, if_pos c_160, if_neg c_169, if_pos c_209, if_neg c_218]) rfl dX6_presentAlarms_45
        · skip
          refine sw_iload_n (pc := 32) F dX6_presentAlarms_32 rfl 1 rfl ?_
          refine sw_iconst (pc := 33) (v := 1) F dX6_presentAlarms_33 rfl ?_
          refine sw_iload_n (pc := 34) F dX6_presentAlarms_34 rfl 0 rfl ?_
          refine sw_ishl (pc := 35) F dX6_presentAlarms_35 ?_
          refine sw_eqt (v := .int 4) (by rfl) ?_
          refine sw_ior (pc := 36) F dX6_presentAlarms_36 ?_
          refine sw_topi (fun x_220 ex_220 => ?_)
          refine sw_istore_n (pc := 37) (lv' := [(1, .int x_220), (2, .int 2), (0, .ref h0)]) F T.1 dX6_presentAlarms_37 rfl (by decide) rfl ?_
          refine sw_iinc (pc := 38) (v := 3) (lv' := [(2, .int 3), (1, .int x_220), (0, .ref h0)]) F T.1 dX6_presentAlarms_38 (q := 1) rfl rfl (by decide) rfl ?_
          refine sw_goto (pc := 41) (tgt := 16) F dX6_presentAlarms_41 (by decide) ?_
          refine sw_iload_n (pc := 16) F dX6_presentAlarms_16 rfl 0 rfl ?_
          refine sw_iconst (pc := 17) (v := 4) F dX6_presentAlarms_17 rfl ?_
          refine sw_icmp_ge (pc := 18) (tgt := 44) F dX6_presentAlarms_18 (by decide) (fun c => absurd c (by decide)) (fun _ => ?_)
          refine sw_aload_n (pc := 21) F dX6_presentAlarms_21 rfl 2 rfl ?_
          refine sw_iload_n (pc := 22) F dX6_presentAlarms_22 rfl 0 rfl ?_
          refine sw_callr (pc := 23) (wr := [(a4, .inr (8, [.int ((-500)), .int ws, .int wd, .int wr, .int wf, .int ww])), (a1, .inr (8, [.int 0, .int ts, .int td, .int tr, .int tf, .int tw])), (a2, .inr (8, [.int 0, .int us, .int ud, .int ur, .int uf, .int uw])), (a3, .inr (8, [.int 0, .int vs, .int vd, .int vr, .int vf, .int vw]))]) (k' := 0) (n' := 0) F (sw_runV (R := ({ frames := 1, cells := 0, slots := 0, locals := 21 } : Room)) (q0 := 0) (na := 1) F T.2.1 T.2.2.1 (k_X6_transmitterAt_3 l G h0 a1 a2 a3 a4 a5 a8 a9 a10 a13 a14 a15 a16 tm ch rg hd df fl ms vo) [3] rfl (by decide) gX6_presentAlarms_X6_transmitterAt rfl rfl rfl (by decide +kernel) ⟨Nat.le_of_ble_eq_true rfl, Nat.le_of_ble_eq_true rfl⟩ rfl rfl rfl rfl rfl (Nat.le_of_ble_eq_true rfl) dX6_presentAlarms_23 (Nat.le_of_ble_eq_true rfl) (Nat.le_of_ble_eq_true rfl)) [3] [0, 1, 2, 4] rfl rfl (by decide) (by decide) rfl rfl (fun r_221 u_222 h_223 => ?_)
          have e_224 : r_221 = a4 := h_223
          refine sw_eqt (v := .ref a4) (by rw [e_224]) ?_
          refine sw_eq (ws' := [(a4, .inr (8, [.int ((-500)), .int ws, .int wd, .int wr, .int wf, .int ww])), (a1, .inr (8, [.int 0, .int ts, .int td, .int tr, .int tf, .int tw])), (a2, .inr (8, [.int 0, .int us, .int ud, .int ur, .int uf, .int uw])), (a3, .inr (8, [.int 0, .int vs, .int vd, .int vr, .int vf, .int vw])), (h0, .inr (6, [.int tm, .int ch, .ref a1, .ref a2, .ref a3, .ref a4, .int rg, .int hd, .int df, .ref a5, .ref a8, .long fl, .long ms, .long vo, .ref a9, .ref a10, .ref a13, .ref a14, .ref a15, .ref a16]))]) (lv' := [(2, .int 3), (1, .int x_220), (0, .ref h0)]) (st' := [.ref a4]) rfl rfl rfl ?_
          refine sw_calli (pc := 26) (wr := [(a1, .inr (8, [.int 0, .int ts, .int td, .int tr, .int tf, .int tw])), (a2, .inr (8, [.int 0, .int us, .int ud, .int ur, .int uf, .int uw])), (a3, .inr (8, [.int 0, .int vs, .int vd, .int vr, .int vf, .int vw])), (h0, .inr (6, [.int tm, .int ch, .ref a1, .ref a2, .ref a3, .ref a4, .int rg, .int hd, .int df, .ref a5, .ref a8, .long fl, .long ms, .long vo, .ref a9, .ref a10, .ref a13, .ref a14, .ref a15, .ref a16]))]) (k' := 0) (n' := 0) F (sw_runV (R := ({ frames := 1, cells := 0, slots := 0, locals := 21 } : Room)) (q0 := 0) (na := 0) F T.2.1 T.2.2.1 (k_X8_isFaulty l G a4 (-500) ws wd wr wf ww) [0] rfl (by decide) gX6_presentAlarms_X8_isFaulty rfl rfl rfl (by decide +kernel) ⟨Nat.le_of_ble_eq_true rfl, Nat.le_of_ble_eq_true rfl⟩ rfl rfl rfl rfl rfl (Nat.le_of_ble_eq_true rfl) dX6_presentAlarms_26 (Nat.le_of_ble_eq_true rfl) (Nat.le_of_ble_eq_true rfl)) [0] [1, 2, 3, 4] rfl rfl (by decide) (by decide) rfl rfl (fun r_225 u_226 h_227 => ?_)
          have e_228 : r_225 = f_X8_isFaulty_r wr := h_227
          refine sw_eq (ws' := [(a1, .inr (8, [.int 0, .int ts, .int td, .int tr, .int tf, .int tw])), (a2, .inr (8, [.int 0, .int us, .int ud, .int ur, .int uf, .int uw])), (a3, .inr (8, [.int 0, .int vs, .int vd, .int vr, .int vf, .int vw])), (h0, .inr (6, [.int tm, .int ch, .ref a1, .ref a2, .ref a3, .ref a4, .int rg, .int hd, .int df, .ref a5, .ref a8, .long fl, .long ms, .long vo, .ref a9, .ref a10, .ref a13, .ref a14, .ref a15, .ref a16])), (a4, .inr (8, [.int ((-500)), .int ws, .int wd, .int wr, .int wf, .int ww]))]) (lv' := [(2, .int 3), (1, .int x_220), (0, .ref h0)]) (st' := [.int r_225]) rfl rfl rfl ?_
          refine sw_if_eq (pc := 29) (tgt := 38) F dX6_presentAlarms_29 (by decide) (fun c_229 => ?_) (fun c_229 => ?_)
          · skip
            refine sw_iinc (pc := 38) (v := 4) (lv' := [(2, .int 4), (1, .int x_220), (0, .ref h0)]) F T.1 dX6_presentAlarms_38 (q := 0) rfl rfl (by decide) rfl ?_
            refine sw_goto (pc := 41) (tgt := 16) F dX6_presentAlarms_41 (by decide) ?_
            refine sw_iload_n (pc := 16) F dX6_presentAlarms_16 rfl 0 rfl ?_
            refine sw_iconst (pc := 17) (v := 4) F dX6_presentAlarms_17 rfl ?_
            refine sw_icmp_ge (pc := 18) (tgt := 44) F dX6_presentAlarms_18 (by decide) (fun _ => ?_) (fun c => absurd c (by decide))
            refine sw_iload_n (pc := 44) F dX6_presentAlarms_44 rfl 1 rfl ?_
            subst e_228
            subst ex_220
            subst e_208
            subst ex_200
            subst e_168
            subst e_159
            refine sw_perm (ws' := [(h0, .inr (6, [.int tm, .int ch, .ref a1, .ref a2, .ref a3, .ref a4, .int rg, .int hd, .int df, .ref a5, .ref a8, .long fl, .long ms, .long vo, .ref a9, .ref a10, .ref a13, .ref a14, .ref a15, .ref a16])), (a1, .inr (8, [.int 0, .int ts, .int td, .int tr, .int tf, .int tw])), (a2, .inr (8, [.int 0, .int us, .int ud, .int ur, .int uf, .int uw])), (a3, .inr (8, [.int 0, .int vs, .int vd, .int vr, .int vf, .int vw])), (a4, .inr (8, [.int ((-500)), .int ws, .int wd, .int wr, .int wf, .int ww]))]) [3, 0, 1, 2, 4] (by decide) rfl ?_
            exact sw_iret (pc := 45) F T rfl rfl () (by unfold f_X6_presentAlarms_r; rw [if_neg c_1, if_pos c_160, if_neg c_169, if_neg c_209, if_pos c_229]) rfl dX6_presentAlarms_45
          · skip
            refine sw_iload_n (pc := 32) F dX6_presentAlarms_32 rfl 1 rfl ?_
            refine sw_iconst (pc := 33) (v := 1) F dX6_presentAlarms_33 rfl ?_
            refine sw_iload_n (pc := 34) F dX6_presentAlarms_34 rfl 0 rfl ?_
            refine sw_ishl (pc := 35) F dX6_presentAlarms_35 ?_
            refine sw_eqt (v := .int 8) (by rfl) ?_
            refine sw_ior (pc := 36) F dX6_presentAlarms_36 ?_
            refine sw_topi (fun x_230 ex_230 => ?_)
            refine sw_istore_n (pc := 37) (lv' := [(1, .int x_230), (2, .int 3), (0, .ref h0)]) F T.1 dX6_presentAlarms_37 rfl (by decide) rfl ?_
            refine sw_iinc (pc := 38) (v := 4) (lv' := [(2, .int 4), (1, .int x_230), (0, .ref h0)]) F T.1 dX6_presentAlarms_38 (q := 1) rfl rfl (by decide) rfl ?_
            refine sw_goto (pc := 41) (tgt := 16) F dX6_presentAlarms_41 (by decide) ?_
            refine sw_iload_n (pc := 16) F dX6_presentAlarms_16 rfl 0 rfl ?_
            refine sw_iconst (pc := 17) (v := 4) F dX6_presentAlarms_17 rfl ?_
            refine sw_icmp_ge (pc := 18) (tgt := 44) F dX6_presentAlarms_18 (by decide) (fun _ => ?_) (fun c => absurd c (by decide))
            refine sw_iload_n (pc := 44) F dX6_presentAlarms_44 rfl 1 rfl ?_
            subst ex_230
            subst e_228
            subst ex_220
            subst e_208
            subst ex_200
            subst e_168
            subst e_159
            refine sw_perm (ws' := [(h0, .inr (6, [.int tm, .int ch, .ref a1, .ref a2, .ref a3, .ref a4, .int rg, .int hd, .int df, .ref a5, .ref a8, .long fl, .long ms, .long vo, .ref a9, .ref a10, .ref a13, .ref a14, .ref a15, .ref a16])), (a1, .inr (8, [.int 0, .int ts, .int td, .int tr, .int tf, .int tw])), (a2, .inr (8, [.int 0, .int us, .int ud, .int ur, .int uf, .int uw])), (a3, .inr (8, [.int 0, .int vs, .int vd, .int vr, .int vf, .int vw])), (a4, .inr (8, [.int ((-500)), .int ws, .int wd, .int wr, .int wf, .int ww]))]) [3, 0, 1, 2, 4] (by decide) rfl ?_
            exact sw_iret (pc := 45) F T rfl rfl () (by unfold f_X6_presentAlarms_r; rw [if_neg c_1, if_pos c_160, if_neg c_169, if_neg c_209, if_neg c_229]) rfl dX6_presentAlarms_45
    · skip
      refine sw_iload_n (pc := 32) F dX6_presentAlarms_32 rfl 1 rfl ?_
      refine sw_iconst (pc := 33) (v := 1) F dX6_presentAlarms_33 rfl ?_
      refine sw_iload_n (pc := 34) F dX6_presentAlarms_34 rfl 0 rfl ?_
      refine sw_ishl (pc := 35) F dX6_presentAlarms_35 ?_
      refine sw_eqt (v := .int 1) (by rfl) ?_
      refine sw_ior (pc := 36) F dX6_presentAlarms_36 ?_
      refine sw_topi (fun x_231 ex_231 => ?_)
      refine sw_istore_n (pc := 37) (lv' := [(1, .int x_231), (2, .int 0), (0, .ref h0)]) F T.1 dX6_presentAlarms_37 rfl (by decide) rfl ?_
      refine sw_iinc (pc := 38) (v := 1) (lv' := [(2, .int 1), (1, .int x_231), (0, .ref h0)]) F T.1 dX6_presentAlarms_38 (q := 1) rfl rfl (by decide) rfl ?_
      refine sw_goto (pc := 41) (tgt := 16) F dX6_presentAlarms_41 (by decide) ?_
      refine sw_iload_n (pc := 16) F dX6_presentAlarms_16 rfl 0 rfl ?_
      refine sw_iconst (pc := 17) (v := 4) F dX6_presentAlarms_17 rfl ?_
      refine sw_icmp_ge (pc := 18) (tgt := 44) F dX6_presentAlarms_18 (by decide) (fun c => absurd c (by decide)) (fun _ => ?_)
      refine sw_aload_n (pc := 21) F dX6_presentAlarms_21 rfl 2 rfl ?_
      refine sw_iload_n (pc := 22) F dX6_presentAlarms_22 rfl 0 rfl ?_
      refine sw_callr (pc := 23) (wr := [(a2, .inr (8, [.int 0, .int us, .int ud, .int ur, .int uf, .int uw])), (a3, .inr (8, [.int 0, .int vs, .int vd, .int vr, .int vf, .int vw])), (a4, .inr (8, [.int ((-500)), .int ws, .int wd, .int wr, .int wf, .int ww])), (a1, .inr (8, [.int 0, .int ts, .int td, .int tr, .int tf, .int tw]))]) (k' := 0) (n' := 0) F (sw_runV (R := ({ frames := 1, cells := 0, slots := 0, locals := 21 } : Room)) (q0 := 0) (na := 1) F T.2.1 T.2.2.1 (k_X6_transmitterAt_1 l G h0 a1 a2 a3 a4 a5 a8 a9 a10 a13 a14 a15 a16 tm ch rg hd df fl ms vo) [3] rfl (by decide) gX6_presentAlarms_X6_transmitterAt rfl rfl rfl (by decide +kernel) ⟨Nat.le_of_ble_eq_true rfl, Nat.le_of_ble_eq_true rfl⟩ rfl rfl rfl rfl rfl (Nat.le_of_ble_eq_true rfl) dX6_presentAlarms_23 (Nat.le_of_ble_eq_true rfl) (Nat.le_of_ble_eq_true rfl)) [3] [0, 1, 2, 4] rfl rfl (by decide) (by decide) rfl rfl (fun r_232 u_233 h_234 => ?_)
      have e_235 : r_232 = a2 := h_234
      refine sw_eqt (v := .ref a2) (by rw [e_235]) ?_
      refine sw_eq (ws' := [(a2, .inr (8, [.int 0, .int us, .int ud, .int ur, .int uf, .int uw])), (a3, .inr (8, [.int 0, .int vs, .int vd, .int vr, .int vf, .int vw])), (a4, .inr (8, [.int ((-500)), .int ws, .int wd, .int wr, .int wf, .int ww])), (a1, .inr (8, [.int 0, .int ts, .int td, .int tr, .int tf, .int tw])), (h0, .inr (6, [.int tm, .int ch, .ref a1, .ref a2, .ref a3, .ref a4, .int rg, .int hd, .int df, .ref a5, .ref a8, .long fl, .long ms, .long vo, .ref a9, .ref a10, .ref a13, .ref a14, .ref a15, .ref a16]))]) (lv' := [(2, .int 1), (1, .int x_231), (0, .ref h0)]) (st' := [.ref a2]) rfl rfl rfl ?_
      refine sw_calli (pc := 26) (wr := [(a3, .inr (8, [.int 0, .int vs, .int vd, .int vr, .int vf, .int vw])), (a4, .inr (8, [.int ((-500)), .int ws, .int wd, .int wr, .int wf, .int ww])), (a1, .inr (8, [.int 0, .int ts, .int td, .int tr, .int tf, .int tw])), (h0, .inr (6, [.int tm, .int ch, .ref a1, .ref a2, .ref a3, .ref a4, .int rg, .int hd, .int df, .ref a5, .ref a8, .long fl, .long ms, .long vo, .ref a9, .ref a10, .ref a13, .ref a14, .ref a15, .ref a16]))]) (k' := 0) (n' := 0) F (sw_runV (R := ({ frames := 1, cells := 0, slots := 0, locals := 21 } : Room)) (q0 := 0) (na := 0) F T.2.1 T.2.2.1 (k_X8_isFaulty l G a2 0 us ud ur uf uw) [0] rfl (by decide) gX6_presentAlarms_X8_isFaulty rfl rfl rfl (by decide +kernel) ⟨Nat.le_of_ble_eq_true rfl, Nat.le_of_ble_eq_true rfl⟩ rfl rfl rfl rfl rfl (Nat.le_of_ble_eq_true rfl) dX6_presentAlarms_26 (Nat.le_of_ble_eq_true rfl) (Nat.le_of_ble_eq_true rfl)) [0] [1, 2, 3, 4] rfl rfl (by decide) (by decide) rfl rfl (fun r_236 u_237 h_238 => ?_)
      have e_239 : r_236 = f_X8_isFaulty_r ur := h_238
      refine sw_eq (ws' := [(a3, .inr (8, [.int 0, .int vs, .int vd, .int vr, .int vf, .int vw])), (a4, .inr (8, [.int ((-500)), .int ws, .int wd, .int wr, .int wf, .int ww])), (a1, .inr (8, [.int 0, .int ts, .int td, .int tr, .int tf, .int tw])), (h0, .inr (6, [.int tm, .int ch, .ref a1, .ref a2, .ref a3, .ref a4, .int rg, .int hd, .int df, .ref a5, .ref a8, .long fl, .long ms, .long vo, .ref a9, .ref a10, .ref a13, .ref a14, .ref a15, .ref a16])), (a2, .inr (8, [.int 0, .int us, .int ud, .int ur, .int uf, .int uw]))]) (lv' := [(2, .int 1), (1, .int x_231), (0, .ref h0)]) (st' := [.int r_236]) rfl rfl rfl ?_
      refine sw_if_eq (pc := 29) (tgt := 38) F dX6_presentAlarms_29 (by decide) (fun c_240 => ?_) (fun c_240 => ?_)
      · skip
        refine sw_iinc (pc := 38) (v := 2) (lv' := [(2, .int 2), (1, .int x_231), (0, .ref h0)]) F T.1 dX6_presentAlarms_38 (q := 0) rfl rfl (by decide) rfl ?_
        refine sw_goto (pc := 41) (tgt := 16) F dX6_presentAlarms_41 (by decide) ?_
        refine sw_iload_n (pc := 16) F dX6_presentAlarms_16 rfl 0 rfl ?_
        refine sw_iconst (pc := 17) (v := 4) F dX6_presentAlarms_17 rfl ?_
        refine sw_icmp_ge (pc := 18) (tgt := 44) F dX6_presentAlarms_18 (by decide) (fun c => absurd c (by decide)) (fun _ => ?_)
        refine sw_aload_n (pc := 21) F dX6_presentAlarms_21 rfl 2 rfl ?_
        refine sw_iload_n (pc := 22) F dX6_presentAlarms_22 rfl 0 rfl ?_
        refine sw_callr (pc := 23) (wr := [(a3, .inr (8, [.int 0, .int vs, .int vd, .int vr, .int vf, .int vw])), (a4, .inr (8, [.int ((-500)), .int ws, .int wd, .int wr, .int wf, .int ww])), (a1, .inr (8, [.int 0, .int ts, .int td, .int tr, .int tf, .int tw])), (a2, .inr (8, [.int 0, .int us, .int ud, .int ur, .int uf, .int uw]))]) (k' := 0) (n' := 0) F (sw_runV (R := ({ frames := 1, cells := 0, slots := 0, locals := 21 } : Room)) (q0 := 0) (na := 1) F T.2.1 T.2.2.1 (k_X6_transmitterAt_2 l G h0 a1 a2 a3 a4 a5 a8 a9 a10 a13 a14 a15 a16 tm ch rg hd df fl ms vo) [3] rfl (by decide) gX6_presentAlarms_X6_transmitterAt rfl rfl rfl (by decide +kernel) ⟨Nat.le_of_ble_eq_true rfl, Nat.le_of_ble_eq_true rfl⟩ rfl rfl rfl rfl rfl (Nat.le_of_ble_eq_true rfl) dX6_presentAlarms_23 (Nat.le_of_ble_eq_true rfl) (Nat.le_of_ble_eq_true rfl)) [3] [0, 1, 2, 4] rfl rfl (by decide) (by decide) rfl rfl (fun r_241 u_242 h_243 => ?_)
        have e_244 : r_241 = a3 := h_243
        refine sw_eqt (v := .ref a3) (by rw [e_244]) ?_
        refine sw_eq (ws' := [(a3, .inr (8, [.int 0, .int vs, .int vd, .int vr, .int vf, .int vw])), (a4, .inr (8, [.int ((-500)), .int ws, .int wd, .int wr, .int wf, .int ww])), (a1, .inr (8, [.int 0, .int ts, .int td, .int tr, .int tf, .int tw])), (a2, .inr (8, [.int 0, .int us, .int ud, .int ur, .int uf, .int uw])), (h0, .inr (6, [.int tm, .int ch, .ref a1, .ref a2, .ref a3, .ref a4, .int rg, .int hd, .int df, .ref a5, .ref a8, .long fl, .long ms, .long vo, .ref a9, .ref a10, .ref a13, .ref a14, .ref a15, .ref a16]))]) (lv' := [(2, .int 2), (1, .int x_231), (0, .ref h0)]) (st' := [.ref a3]) rfl rfl rfl ?_
        refine sw_calli (pc := 26) (wr := [(a4, .inr (8, [.int ((-500)), .int ws, .int wd, .int wr, .int wf, .int ww])), (a1, .inr (8, [.int 0, .int ts, .int td, .int tr, .int tf, .int tw])), (a2, .inr (8, [.int 0, .int us, .int ud, .int ur, .int uf, .int uw])), (h0, .inr (6, [.int tm, .int ch, .ref a1, .ref a2, .ref a3, .ref a4, .int rg, .int hd, .int df, .ref a5, .ref a8, .long fl, .long ms, .long vo, .ref a9, .ref a10, .ref a13, .ref a14, .ref a15, .ref a16]))]) (k' := 0) (n' := 0) F (sw_runV (R := ({ frames := 1, cells := 0, slots := 0, locals := 21 } : Room)) (q0 := 0) (na := 0) F T.2.1 T.2.2.1 (k_X8_isFaulty l G a3 0 vs vd vr vf vw) [0] rfl (by decide) gX6_presentAlarms_X8_isFaulty rfl rfl rfl (by decide +kernel) ⟨Nat.le_of_ble_eq_true rfl, Nat.le_of_ble_eq_true rfl⟩ rfl rfl rfl rfl rfl (Nat.le_of_ble_eq_true rfl) dX6_presentAlarms_26 (Nat.le_of_ble_eq_true rfl) (Nat.le_of_ble_eq_true rfl)) [0] [1, 2, 3, 4] rfl rfl (by decide) (by decide) rfl rfl (fun r_245 u_246 h_247 => ?_)
        have e_248 : r_245 = f_X8_isFaulty_r vr := h_247
        refine sw_eq (ws' := [(a4, .inr (8, [.int ((-500)), .int ws, .int wd, .int wr, .int wf, .int ww])), (a1, .inr (8, [.int 0, .int ts, .int td, .int tr, .int tf, .int tw])), (a2, .inr (8, [.int 0, .int us, .int ud, .int ur, .int uf, .int uw])), (h0, .inr (6, [.int tm, .int ch, .ref a1, .ref a2, .ref a3, .ref a4, .int rg, .int hd, .int df, .ref a5, .ref a8, .long fl, .long ms, .long vo, .ref a9, .ref a10, .ref a13, .ref a14, .ref a15, .ref a16])), (a3, .inr (8, [.int 0, .int vs, .int vd, .int vr, .int vf, .int vw]))]) (lv' := [(2, .int 2), (1, .int x_231), (0, .ref h0)]) (st' := [.int r_245]) rfl rfl rfl ?_
        refine sw_if_eq (pc := 29) (tgt := 38) F dX6_presentAlarms_29 (by decide) (fun c_249 => ?_) (fun c_249 => ?_)
        · skip
          refine sw_iinc (pc := 38) (v := 3) (lv' := [(2, .int 3), (1, .int x_231), (0, .ref h0)]) F T.1 dX6_presentAlarms_38 (q := 0) rfl rfl (by decide) rfl ?_
          refine sw_goto (pc := 41) (tgt := 16) F dX6_presentAlarms_41 (by decide) ?_
          refine sw_iload_n (pc := 16) F dX6_presentAlarms_16 rfl 0 rfl ?_
          refine sw_iconst (pc := 17) (v := 4) F dX6_presentAlarms_17 rfl ?_
          refine sw_icmp_ge (pc := 18) (tgt := 44) F dX6_presentAlarms_18 (by decide) (fun c => absurd c (by decide)) (fun _ => ?_)
          refine sw_aload_n (pc := 21) F dX6_presentAlarms_21 rfl 2 rfl ?_
          refine sw_iload_n (pc := 22) F dX6_presentAlarms_22 rfl 0 rfl ?_
          refine sw_callr (pc := 23) (wr := [(a4, .inr (8, [.int ((-500)), .int ws, .int wd, .int wr, .int wf, .int ww])), (a1, .inr (8, [.int 0, .int ts, .int td, .int tr, .int tf, .int tw])), (a2, .inr (8, [.int 0, .int us, .int ud, .int ur, .int uf, .int uw])), (a3, .inr (8, [.int 0, .int vs, .int vd, .int vr, .int vf, .int vw]))]) (k' := 0) (n' := 0) F (sw_runV (R := ({ frames := 1, cells := 0, slots := 0, locals := 21 } : Room)) (q0 := 0) (na := 1) F T.2.1 T.2.2.1 (k_X6_transmitterAt_3 l G h0 a1 a2 a3 a4 a5 a8 a9 a10 a13 a14 a15 a16 tm ch rg hd df fl ms vo) [3] rfl (by decide) gX6_presentAlarms_X6_transmitterAt rfl rfl rfl (by decide +kernel) ⟨Nat.le_of_ble_eq_true rfl, Nat.le_of_ble_eq_true rfl⟩ rfl rfl rfl rfl rfl (Nat.le_of_ble_eq_true rfl) dX6_presentAlarms_23 (Nat.le_of_ble_eq_true rfl) (Nat.le_of_ble_eq_true rfl)) [3] [0, 1, 2, 4] rfl rfl (by decide) (by decide) rfl rfl (fun r_250 u_251 h_252 => ?_)
          have e_253 : r_250 = a4 := h_252
          refine sw_eqt (v := .ref a4) (by rw [e_253]) ?_
          refine sw_eq (ws' := [(a4, .inr (8, [.int ((-500)), .int ws, .int wd, .int wr, .int wf, .int ww])), (a1, .inr (8, [.int 0, .int ts, .int td, .int tr, .int tf, .int tw])), (a2, .inr (8, [.int 0, .int us, .int ud, .int ur, .int uf, .int uw])), (a3, .inr (8, [.int 0, .int vs, .int vd, .int vr, .int vf, .int vw])), (h0, .inr (6, [.int tm, .int ch, .ref a1, .ref a2, .ref a3, .ref a4, .int rg, .int hd, .int df, .ref a5, .ref a8, .long fl, .long ms, .long vo, .ref a9, .ref a10, .ref a13, .ref a14, .ref a15, .ref a16]))]) (lv' := [(2, .int 3), (1, .int x_231), (0, .ref h0)]) (st' := [.ref a4]) rfl rfl rfl ?_
          refine sw_calli (pc := 26) (wr := [(a1, .inr (8, [.int 0, .int ts, .int td, .int tr, .int tf, .int tw])), (a2, .inr (8, [.int 0, .int us, .int ud, .int ur, .int uf, .int uw])), (a3, .inr (8, [.int 0, .int vs, .int vd, .int vr, .int vf, .int vw])), (h0, .inr (6, [.int tm, .int ch, .ref a1, .ref a2, .ref a3, .ref a4, .int rg, .int hd, .int df, .ref a5, .ref a8, .long fl, .long ms, .long vo, .ref a9, .ref a10, .ref a13, .ref a14, .ref a15, .ref a16]))]) (k' := 0) (n' := 0) F (sw_runV (R := ({ frames := 1, cells := 0, slots := 0, locals := 21 } : Room)) (q0 := 0) (na := 0) F T.2.1 T.2.2.1 (k_X8_isFaulty l G a4 (-500) ws wd wr wf ww) [0] rfl (by decide) gX6_presentAlarms_X8_isFaulty rfl rfl rfl (by decide +kernel) ⟨Nat.le_of_ble_eq_true rfl, Nat.le_of_ble_eq_true rfl⟩ rfl rfl rfl rfl rfl (Nat.le_of_ble_eq_true rfl) dX6_presentAlarms_26 (Nat.le_of_ble_eq_true rfl) (Nat.le_of_ble_eq_true rfl)) [0] [1, 2, 3, 4] rfl rfl (by decide) (by decide) rfl rfl (fun r_254 u_255 h_256 => ?_)
          have e_257 : r_254 = f_X8_isFaulty_r wr := h_256
          refine sw_eq (ws' := [(a1, .inr (8, [.int 0, .int ts, .int td, .int tr, .int tf, .int tw])), (a2, .inr (8, [.int 0, .int us, .int ud, .int ur, .int uf, .int uw])), (a3, .inr (8, [.int 0, .int vs, .int vd, .int vr, .int vf, .int vw])), (h0, .inr (6, [.int tm, .int ch, .ref a1, .ref a2, .ref a3, .ref a4, .int rg, .int hd, .int df, .ref a5, .ref a8, .long fl, .long ms, .long vo, .ref a9, .ref a10, .ref a13, .ref a14, .ref a15, .ref a16])), (a4, .inr (8, [.int ((-500)), .int ws, .int wd, .int wr, .int wf, .int ww]))]) (lv' := [(2, .int 3), (1, .int x_231), (0, .ref h0)]) (st' := [.int r_254]) rfl rfl rfl ?_
          refine sw_if_eq (pc := 29) (tgt := 38) F dX6_presentAlarms_29 (by decide) (fun c_258 => ?_) (fun c_258 => ?_)
          · skip
            refine sw_iinc (pc := 38) (v := 4) (lv' := [(2, .int 4), (1, .int x_231), (0, .ref h0)]) F T.1 dX6_presentAlarms_38 (q := 0) rfl rfl (by decide) rfl ?_
            refine sw_goto (pc := 41) (tgt := 16) F dX6_presentAlarms_41 (by decide) ?_
            refine sw_iload_n (pc := 16) F dX6_presentAlarms_16 rfl 0 rfl ?_
            refine sw_iconst (pc := 17) (v := 4) F dX6_presentAlarms_17 rfl ?_
            refine sw_icmp_ge (pc := 18) (tgt := 44) F dX6_presentAlarms_18 (by decide) (fun _ => ?_) (fun c => absurd c (by decide))
            refine sw_iload_n (pc := 44) F dX6_presentAlarms_44 rfl 1 rfl ?_
            subst e_257
            subst e_248
            subst e_239
            subst ex_231
            subst e_159
            refine sw_perm (ws' := [(h0, .inr (6, [.int tm, .int ch, .ref a1, .ref a2, .ref a3, .ref a4, .int rg, .int hd, .int df, .ref a5, .ref a8, .long fl, .long ms, .long vo, .ref a9, .ref a10, .ref a13, .ref a14, .ref a15, .ref a16])), (a1, .inr (8, [.int 0, .int ts, .int td, .int tr, .int tf, .int tw])), (a2, .inr (8, [.int 0, .int us, .int ud, .int ur, .int uf, .int uw])), (a3, .inr (8, [.int 0, .int vs, .int vd, .int vr, .int vf, .int vw])), (a4, .inr (8, [.int ((-500)), .int ws, .int wd, .int wr, .int wf, .int ww]))]) [3, 0, 1, 2, 4] (by decide) rfl ?_
            exact sw_iret (pc := 45) F T rfl rfl () (by unfold f_X6_presentAlarms_r; rw [if_neg c_1, if_neg c_160, if_pos c_240, if_pos c_249, if_pos c_258]) rfl dX6_presentAlarms_45
          · skip
            refine sw_iload_n (pc := 32) F dX6_presentAlarms_32 rfl 1 rfl ?_
            refine sw_iconst (pc := 33) (v := 1) F dX6_presentAlarms_33 rfl ?_
            refine sw_iload_n (pc := 34) F dX6_presentAlarms_34 rfl 0 rfl ?_
            refine sw_ishl (pc := 35) F dX6_presentAlarms_35 ?_
            refine sw_eqt (v := .int 8) (by rfl) ?_
            refine sw_ior (pc := 36) F dX6_presentAlarms_36 ?_
            refine sw_topi (fun x_259 ex_259 => ?_)
            refine sw_istore_n (pc := 37) (lv' := [(1, .int x_259), (2, .int 3), (0, .ref h0)]) F T.1 dX6_presentAlarms_37 rfl (by decide) rfl ?_
            refine sw_iinc (pc := 38) (v := 4) (lv' := [(2, .int 4), (1, .int x_259), (0, .ref h0)]) F T.1 dX6_presentAlarms_38 (q := 1) rfl rfl (by decide) rfl ?_
            refine sw_goto (pc := 41) (tgt := 16) F dX6_presentAlarms_41 (by decide) ?_
            refine sw_iload_n (pc := 16) F dX6_presentAlarms_16 rfl 0 rfl ?_
            refine sw_iconst (pc := 17) (v := 4) F dX6_presentAlarms_17 rfl ?_
            refine sw_icmp_ge (pc := 18) (tgt := 44) F dX6_presentAlarms_18 (by decide) (fun _ => ?_) (fun c => absurd c (by decide))
            refine sw_iload_n (pc := 44) F dX6_presentAlarms_44 rfl 1 rfl ?_
            subst ex_259
            subst e_257
            subst e_248
            subst e_239
            subst ex_231
            subst e_159
            refine sw_perm (ws' := [(h0, .inr (6, [.int tm, .int ch, .ref a1, .ref a2, .ref a3, .ref a4, .int rg, .int hd, .int df, .ref a5, .ref a8, .long fl, .long ms, .long vo, .ref a9, .ref a10, .ref a13, .ref a14, .ref a15, .ref a16])), (a1, .inr (8, [.int 0, .int ts, .int td, .int tr, .int tf, .int tw])), (a2, .inr (8, [.int 0, .int us, .int ud, .int ur, .int uf, .int uw])), (a3, .inr (8, [.int 0, .int vs, .int vd, .int vr, .int vf, .int vw])), (a4, .inr (8, [.int ((-500)), .int ws, .int wd, .int wr, .int wf, .int ww]))]) [3, 0, 1, 2, 4] (by decide) rfl ?_
            exact sw_iret (pc := 45) F T rfl rfl () (by unfold f_X6_presentAlarms_r; rw [if_neg c_1, if_neg c_160, if_pos c_240, if_pos c_249, if_neg c_258]) rfl dX6_presentAlarms_45
        · skip
          refine sw_iload_n (pc := 32) F dX6_presentAlarms_32 rfl 1 rfl ?_
          refine sw_iconst (pc := 33) (v := 1) F dX6_presentAlarms_33 rfl ?_
          refine sw_iload_n (pc := 34) F dX6_presentAlarms_34 rfl 0 rfl ?_
          refine sw_ishl (pc := 35) F dX6_presentAlarms_35 ?_
          refine sw_eqt (v := .int 4) (by rfl) ?_
          refine sw_ior (pc := 36) F dX6_presentAlarms_36 ?_
          refine sw_topi (fun x_260 ex_260 => ?_)
          refine sw_istore_n (pc := 37) (lv' := [(1, .int x_260), (2, .int 2), (0, .ref h0)]) F T.1 dX6_presentAlarms_37 rfl (by decide) rfl ?_
          refine sw_iinc (pc := 38) (v := 3) (lv' := [(2, .int 3), (1, .int x_260), (0, .ref h0)]) F T.1 dX6_presentAlarms_38 (q := 1) rfl rfl (by decide) rfl ?_
          refine sw_goto (pc := 41) (tgt := 16) F dX6_presentAlarms_41 (by decide) ?_
          refine sw_iload_n (pc := 16) F dX6_presentAlarms_16 rfl 0 rfl ?_
          refine sw_iconst (pc := 17) (v := 4) F dX6_presentAlarms_17 rfl ?_
          refine sw_icmp_ge (pc := 18) (tgt := 44) F dX6_presentAlarms_18 (by decide) (fun c => absurd c (by decide)) (fun _ => ?_)
          refine sw_aload_n (pc := 21) F dX6_presentAlarms_21 rfl 2 rfl ?_
          refine sw_iload_n (pc := 22) F dX6_presentAlarms_22 rfl 0 rfl ?_
          refine sw_callr (pc := 23) (wr := [(a4, .inr (8, [.int ((-500)), .int ws, .int wd, .int wr, .int wf, .int ww])), (a1, .inr (8, [.int 0, .int ts, .int td, .int tr, .int tf, .int tw])), (a2, .inr (8, [.int 0, .int us, .int ud, .int ur, .int uf, .int uw])), (a3, .inr (8, [.int 0, .int vs, .int vd, .int vr, .int vf, .int vw]))]) (k' := 0) (n' := 0) F (sw_runV (R := ({ frames := 1, cells := 0, slots := 0, locals := 21 } : Room)) (q0 := 0) (na := 1) F T.2.1 T.2.2.1 (k_X6_transmitterAt_3 l G h0 a1 a2 a3 a4 a5 a8 a9 a10 a13 a14 a15 a16 tm ch rg hd df fl ms vo) [3] rfl (by decide) gX6_presentAlarms_X6_transmitterAt rfl rfl rfl (by decide +kernel) ⟨Nat.le_of_ble_eq_true rfl, Nat.le_of_ble_eq_true rfl⟩ rfl rfl rfl rfl rfl (Nat.le_of_ble_eq_true rfl) dX6_presentAlarms_23 (Nat.le_of_ble_eq_true rfl) (Nat.le_of_ble_eq_true rfl)) [3] [0, 1, 2, 4] rfl rfl (by decide) (by decide) rfl rfl (fun r_261 u_262 h_263 => ?_)
          have e_264 : r_261 = a4 := h_263
          refine sw_eqt (v := .ref a4) (by rw [e_264]) ?_
          refine sw_eq (ws' := [(a4, .inr (8, [.int ((-500)), .int ws, .int wd, .int wr, .int wf, .int ww])), (a1, .inr (8, [.int 0, .int ts, .int td, .int tr, .int tf, .int tw])), (a2, .inr (8, [.int 0, .int us, .int ud, .int ur, .int uf, .int uw])), (a3, .inr (8, [.int 0, .int vs, .int vd, .int vr, .int vf, .int vw])), (h0, .inr (6, [.int tm, .int ch, .ref a1, .ref a2, .ref a3, .ref a4, .int rg, .int hd, .int df, .ref a5, .ref a8, .long fl, .long ms, .long vo, .ref a9, .ref a10, .ref a13, .ref a14, .ref a15, .ref a16]))]) (lv' := [(2, .int 3), (1, .int x_260), (0, .ref h0)]) (st' := [.ref a4]) rfl rfl rfl ?_
          refine sw_calli (pc := 26) (wr := [(a1, .inr (8, [.int 0, .int ts, .int td, .int tr, .int tf, .int tw])), (a2, .inr (8, [.int 0, .int us, .int ud, .int ur, .int uf, .int uw])), (a3, .inr (8, [.int 0, .int vs, .int vd, .int vr, .int vf, .int vw])), (h0, .inr (6, [.int tm, .int ch, .ref a1, .ref a2, .ref a3, .ref a4, .int rg, .int hd, .int df, .ref a5, .ref a8, .long fl, .long ms, .long vo, .ref a9, .ref a10, .ref a13, .ref a14, .ref a15, .ref a16]))]) (k' := 0) (n' := 0) F (sw_runV (R := ({ frames := 1, cells := 0, slots := 0, locals := 21 } : Room)) (q0 := 0) (na := 0) F T.2.1 T.2.2.1 (k_X8_isFaulty l G a4 (-500) ws wd wr wf ww) [0] rfl (by decide) gX6_presentAlarms_X8_isFaulty rfl rfl rfl (by decide +kernel) ⟨Nat.le_of_ble_eq_true rfl, Nat.le_of_ble_eq_true rfl⟩ rfl rfl rfl rfl rfl (Nat.le_of_ble_eq_true rfl) dX6_presentAlarms_26 (Nat.le_of_ble_eq_true rfl) (Nat.le_of_ble_eq_true rfl)) [0] [1, 2, 3, 4] rfl rfl (by decide) (by decide) rfl rfl (fun r_265 u_266 h_267 => ?_)
          have e_268 : r_265 = f_X8_isFaulty_r wr := h_267
          refine sw_eq (ws' := [(a1, .inr (8, [.int 0, .int ts, .int td, .int tr, .int tf, .int tw])), (a2, .inr (8, [.int 0, .int us, .int ud, .int ur, .int uf, .int uw])), (a3, .inr (8, [.int 0, .int vs, .int vd, .int vr, .int vf, .int vw])), (h0, .inr (6, [.int tm, .int ch, .ref a1, .ref a2, .ref a3, .ref a4, .int rg, .int hd, .int df, .ref a5, .ref a8, .long fl, .long ms, .long vo, .ref a9, .ref a10, .ref a13, .ref a14, .ref a15, .ref a16])), (a4, .inr (8, [.int ((-500)), .int ws, .int wd, .int wr, .int wf, .int ww]))]) (lv' := [(2, .int 3), (1, .int x_260), (0, .ref h0)]) (st' := [.int r_265]) rfl rfl rfl ?_
          refine sw_if_eq (pc := 29) (tgt := 38) F dX6_presentAlarms_29 (by decide) (fun c_269 => ?_) (fun c_269 => ?_)
          · skip
            refine sw_iinc (pc := 38) (v := 4) (lv' := [(2, .int 4), (1, .int x_260), (0, .ref h0)]) F T.1 dX6_presentAlarms_38 (q := 0) rfl rfl (by decide) rfl ?_
            refine sw_goto (pc := 41) (tgt := 16) F dX6_presentAlarms_41 (by decide) ?_
            refine sw_iload_n (pc := 16) F dX6_presentAlarms_16 rfl 0 rfl ?_
            refine sw_iconst (pc := 17) (v := 4) F dX6_presentAlarms_17 rfl ?_
            refine sw_icmp_ge (pc := 18) (tgt := 44) F dX6_presentAlarms_18 (by decide) (fun _ => ?_) (fun c => absurd c (by decide))
            refine sw_iload_n (pc := 44) F dX6_presentAlarms_44 rfl 1 rfl ?_
            subst e_268
            subst ex_260
            subst e_248
            subst e_239
            subst ex_231
            subst e_159
            refine sw_perm (ws' := [(h0, .inr (6, [.int tm, .int ch, .ref a1, .ref a2, .ref a3, .ref a4, .int rg, .int hd, .int df, .ref a5, .ref a8, .long fl, .long ms, .long vo, .ref a9, .ref a10, .ref a13, .ref a14, .ref a15, .ref a16])), (a1, .inr (8, [.int 0, .int ts, .int td, .int tr, .int tf, .int tw])), (a2, .inr (8, [.int 0, .int us, .int ud, .int ur, .int uf, .int uw])), (a3, .inr (8, [.int 0, .int vs, .int vd, .int vr, .int vf, .int vw])), (a4, .inr (8, [.int ((-500)), .int ws, .int wd, .int wr, .int wf, .int ww]))]) [3, 0, 1, 2, 4] (by decide) rfl ?_
            exact sw_iret (pc := 45) F T rfl rfl () (by unfold f_X6_presentAlarms_r; rw [if_neg c_1, if_neg c_160, if_pos c_240, if_neg c_249, if_pos c_269]) rfl dX6_presentAlarms_45
          · skip
            refine sw_iload_n (pc := 32) F dX6_presentAlarms_32 rfl 1 rfl ?_
            refine sw_iconst (pc := 33) (v := 1) F dX6_presentAlarms_33 rfl ?_
            refine sw_iload_n (pc := 34) F dX6_presentAlarms_34 rfl 0 rfl ?_
            refine sw_ishl (pc := 35) F dX6_presentAlarms_35 ?_
            refine sw_eqt (v := .int 8) (by rfl) ?_
            refine sw_ior (pc := 36) F dX6_presentAlarms_36 ?_
            refine sw_topi (fun x_270 ex_270 => ?_)
            refine sw_istore_n (pc := 37) (lv' := [(1, .int x_270), (2, .int 3), (0, .ref h0)]) F T.1 dX6_presentAlarms_37 rfl (by decide) rfl ?_
            refine sw_iinc (pc := 38) (v := 4) (lv' := [(2, .int 4), (1, .int x_270), (0, .ref h0)]) F T.1 dX6_presentAlarms_38 (q := 1) rfl rfl (by decide) rfl ?_
            refine sw_goto (pc := 41) (tgt := 16) F dX6_presentAlarms_41 (by decide) ?_
            refine sw_iload_n (pc := 16) F dX6_presentAlarms_16 rfl 0 rfl ?_
            refine sw_iconst (pc := 17) (v := 4) F dX6_presentAlarms_17 rfl ?_
            refine sw_icmp_ge (pc := 18) (tgt := 44) F dX6_presentAlarms_18 (by decide) (fun _ => ?_) (fun c => absurd c (by decide))
            refine sw_iload_n (pc := 44) F dX6_presentAlarms_44 rfl 1 rfl ?_
            subst ex_270
            subst e_268
            subst ex_260
            subst e_248
            subst e_239
            subst ex_231
            subst e_159
            refine sw_perm (ws' := [(h0, .inr (6, [.int tm, .int ch, .ref a1, .ref a2, .ref a3, .ref a4, .int rg, .int hd, .int df, .ref a5, .ref a8, .long fl, .long ms, .long vo, .ref a9, .ref a10, .ref a13, .ref a14, .ref a15, .ref a16])), (a1, .inr (8, [.int 0, .int ts, .int td, .int tr, .int tf, .int tw])), (a2, .inr (8, [.int 0, .int us, .int ud, .int ur, .int uf, .int uw])), (a3, .inr (8, [.int 0, .int vs, .int vd, .int vr, .int vf, .int vw])), (a4, .inr (8, [.int ((-500)), .int ws, .int wd, .int wr, .int wf, .int ww]))]) [3, 0, 1, 2, 4] (by decide) rfl ?_
            exact sw_iret (pc := 45) F T rfl rfl () (by unfold f_X6_presentAlarms_r; rw [if_neg c_1, if_neg c_160, if_pos c_240, if_neg c_249, if_neg c_269]) rfl dX6_presentAlarms_45
      · skip
        refine sw_iload_n (pc := 32) F dX6_presentAlarms_32 rfl 1 rfl ?_
        refine sw_iconst (pc := 33) (v := 1) F dX6_presentAlarms_33 rfl ?_
        refine sw_iload_n (pc := 34) F dX6_presentAlarms_34 rfl 0 rfl ?_
        refine sw_ishl (pc := 35) F dX6_presentAlarms_35 ?_
        refine sw_eqt (v := .int 2) (by rfl) ?_
        refine sw_ior (pc := 36) F dX6_presentAlarms_36 ?_
        refine sw_topi (fun x_271 ex_271 => ?_)
        refine sw_istore_n (pc := 37) (lv' := [(1, .int x_271), (2, .int 1), (0, .ref h0)]) F T.1 dX6_presentAlarms_37 rfl (by decide) rfl ?_
        refine sw_iinc (pc := 38) (v := 2) (lv' := [(2, .int 2), (1, .int x_271), (0, .ref h0)]) F T.1 dX6_presentAlarms_38 (q := 1) rfl rfl (by decide) rfl ?_
        refine sw_goto (pc := 41) (tgt := 16) F dX6_presentAlarms_41 (by decide) ?_
        refine sw_iload_n (pc := 16) F dX6_presentAlarms_16 rfl 0 rfl ?_
        refine sw_iconst (pc := 17) (v := 4) F dX6_presentAlarms_17 rfl ?_
        refine sw_icmp_ge (pc := 18) (tgt := 44) F dX6_presentAlarms_18 (by decide) (fun c => absurd c (by decide)) (fun _ => ?_)
        refine sw_aload_n (pc := 21) F dX6_presentAlarms_21 rfl 2 rfl ?_
        refine sw_iload_n (pc := 22) F dX6_presentAlarms_22 rfl 0 rfl ?_
        refine sw_callr (pc := 23) (wr := [(a3, .inr (8, [.int 0, .int vs, .int vd, .int vr, .int vf, .int vw])), (a4, .inr (8, [.int ((-500)), .int ws, .int wd, .int wr, .int wf, .int ww])), (a1, .inr (8, [.int 0, .int ts, .int td, .int tr, .int tf, .int tw])), (a2, .inr (8, [.int 0, .int us, .int ud, .int ur, .int uf, .int uw]))]) (k' := 0) (n' := 0) F (sw_runV (R := ({ frames := 1, cells := 0, slots := 0, locals := 21 } : Room)) (q0 := 0) (na := 1) F T.2.1 T.2.2.1 (k_X6_transmitterAt_2 l G h0 a1 a2 a3 a4 a5 a8 a9 a10 a13 a14 a15 a16 tm ch rg hd df fl ms vo) [3] rfl (by decide) gX6_presentAlarms_X6_transmitterAt rfl rfl rfl (by decide +kernel) ⟨Nat.le_of_ble_eq_true rfl, Nat.le_of_ble_eq_true rfl⟩ rfl rfl rfl rfl rfl (Nat.le_of_ble_eq_true rfl) dX6_presentAlarms_23 (Nat.le_of_ble_eq_true rfl) (Nat.le_of_ble_eq_true rfl)) [3] [0, 1, 2, 4] rfl rfl (by decide) (by decide) rfl rfl (fun r_272 u_273 h_274 => ?_)
        have e_275 : r_272 = a3 := h_274
        refine sw_eqt (v := .ref a3) (by rw [e_275]) ?_
        refine sw_eq (ws' := [(a3, .inr (8, [.int 0, .int vs, .int vd, .int vr, .int vf, .int vw])), (a4, .inr (8, [.int ((-500)), .int ws, .int wd, .int wr, .int wf, .int ww])), (a1, .inr (8, [.int 0, .int ts, .int td, .int tr, .int tf, .int tw])), (a2, .inr (8, [.int 0, .int us, .int ud, .int ur, .int uf, .int uw])), (h0, .inr (6, [.int tm, .int ch, .ref a1, .ref a2, .ref a3, .ref a4, .int rg, .int hd, .int df, .ref a5, .ref a8, .long fl, .long ms, .long vo, .ref a9, .ref a10, .ref a13, .ref a14, .ref a15, .ref a16]))]) (lv' := [(2, .int 2), (1, .int x_271), (0, .ref h0)]) (st' := [.ref a3]) rfl rfl rfl ?_
        refine sw_calli (pc := 26) (wr := [(a4, .inr (8, [.int ((-500)), .int ws, .int wd, .int wr, .int wf, .int ww])), (a1, .inr (8, [.int 0, .int ts, .int td, .int tr, .int tf, .int tw])), (a2, .inr (8, [.int 0, .int us, .int ud, .int ur, .int uf, .int uw])), (h0, .inr (6, [.int tm, .int ch, .ref a1, .ref a2, .ref a3, .ref a4, .int rg, .int hd, .int df, .ref a5, .ref a8, .long fl, .long ms, .long vo, .ref a9, .ref a10, .ref a13, .ref a14, .ref a15, .ref a16]))]) (k' := 0) (n' := 0) F (sw_runV (R := ({ frames := 1, cells := 0, slots := 0, locals := 21 } : Room)) (q0 := 0) (na := 0) F T.2.1 T.2.2.1 (k_X8_isFaulty l G a3 0 vs vd vr vf vw) [0] rfl (by decide) gX6_presentAlarms_X8_isFaulty rfl rfl rfl (by decide +kernel) ⟨Nat.le_of_ble_eq_true rfl, Nat.le_of_ble_eq_true rfl⟩ rfl rfl rfl rfl rfl (Nat.le_of_ble_eq_true rfl) dX6_presentAlarms_26 (Nat.le_of_ble_eq_true rfl) (Nat.le_of_ble_eq_true rfl)) [0] [1, 2, 3, 4] rfl rfl (by decide) (by decide) rfl rfl (fun r_276 u_277 h_278 => ?_)
        have e_279 : r_276 = f_X8_isFaulty_r vr := h_278
        refine sw_eq (ws' := [(a4, .inr (8, [.int ((-500)), .int ws, .int wd, .int wr, .int wf, .int ww])), (a1, .inr (8, [.int 0, .int ts, .int td, .int tr, .int tf, .int tw])), (a2, .inr (8, [.int 0, .int us, .int ud, .int ur, .int uf, .int uw])), (h0, .inr (6, [.int tm, .int ch, .ref a1, .ref a2, .ref a3, .ref a4, .int rg, .int hd, .int df, .ref a5, .ref a8, .long fl, .long ms, .long vo, .ref a9, .ref a10, .ref a13, .ref a14, .ref a15, .ref a16])), (a3, .inr (8, [.int 0, .int vs, .int vd, .int vr, .int vf, .int vw]))]) (lv' := [(2, .int 2), (1, .int x_271), (0, .ref h0)]) (st' := [.int r_276]) rfl rfl rfl ?_
        refine sw_if_eq (pc := 29) (tgt := 38) F dX6_presentAlarms_29 (by decide) (fun c_280 => ?_) (fun c_280 => ?_)
        · skip
          refine sw_iinc (pc := 38) (v := 3) (lv' := [(2, .int 3), (1, .int x_271), (0, .ref h0)]) F T.1 dX6_presentAlarms_38 (q := 0) rfl rfl (by decide) rfl ?_
          refine sw_goto (pc := 41) (tgt := 16) F dX6_presentAlarms_41 (by decide) ?_
          refine sw_iload_n (pc := 16) F dX6_presentAlarms_16 rfl 0 rfl ?_
          refine sw_iconst (pc := 17) (v := 4) F dX6_presentAlarms_17 rfl ?_
          refine sw_icmp_ge (pc := 18) (tgt := 44) F dX6_presentAlarms_18 (by decide) (fun c => absurd c (by decide)) (fun _ => ?_)
          refine sw_aload_n (pc := 21) F dX6_presentAlarms_21 rfl 2 rfl ?_
          refine sw_iload_n (pc := 22) F dX6_presentAlarms_22 rfl 0 rfl ?_
          refine sw_callr (pc := 23) (wr := [(a4, .inr (8, [.int ((-500)), .int ws, .int wd, .int wr, .int wf, .int ww])), (a1, .inr (8, [.int 0, .int ts, .int td, .int tr, .int tf, .int tw])), (a2, .inr (8, [.int 0, .int us, .int ud, .int ur, .int uf, .int uw])), (a3, .inr (8, [.int 0, .int vs, .int vd, .int vr, .int vf, .int vw]))]) (k' := 0) (n' := 0) F (sw_runV (R := ({ frames := 1, cells := 0, slots := 0, locals := 21 } : Room)) (q0 := 0) (na := 1) F T.2.1 T.2.2.1 (k_X6_transmitterAt_3 l G h0 a1 a2 a3 a4 a5 a8 a9 a10 a13 a14 a15 a16 tm ch rg hd df fl ms vo) [3] rfl (by decide) gX6_presentAlarms_X6_transmitterAt rfl rfl rfl (by decide +kernel) ⟨Nat.le_of_ble_eq_true rfl, Nat.le_of_ble_eq_true rfl⟩ rfl rfl rfl rfl rfl (Nat.le_of_ble_eq_true rfl) dX6_presentAlarms_23 (Nat.le_of_ble_eq_true rfl) (Nat.le_of_ble_eq_true rfl)) [3] [0, 1, 2, 4] rfl rfl (by decide) (by decide) rfl rfl (fun r_281 u_282 h_283 => ?_)
          have e_284 : r_281 = a4 := h_283
          refine sw_eqt (v := .ref a4) (by rw [e_284]) ?_
          refine sw_eq (ws' := [(a4, .inr (8, [.int ((-500)), .int ws, .int wd, .int wr, .int wf, .int ww])), (a1, .inr (8, [.int 0, .int ts, .int td, .int tr, .int tf, .int tw])), (a2, .inr (8, [.int 0, .int us, .int ud, .int ur, .int uf, .int uw])), (a3, .inr (8, [.int 0, .int vs, .int vd, .int vr, .int vf, .int vw])), (h0, .inr (6, [.int tm, .int ch, .ref a1, .ref a2, .ref a3, .ref a4, .int rg, .int hd, .int df, .ref a5, .ref a8, .long fl, .long ms, .long vo, .ref a9, .ref a10, .ref a13, .ref a14, .ref a15, .ref a16]))]) (lv' := [(2, .int 3), (1, .int x_271), (0, .ref h0)]) (st' := [.ref a4]) rfl rfl rfl ?_
          refine sw_calli (pc := 26) (wr := [(a1, .inr (8, [.int 0, .int ts, .int td, .int tr, .int tf, .int tw])), (a2, .inr (8, [.int 0, .int us, .int ud, .int ur, .int uf, .int uw])), (a3, .inr (8, [.int 0, .int vs, .int vd, .int vr, .int vf, .int vw])), (h0, .inr (6, [.int tm, .int ch, .ref a1, .ref a2, .ref a3, .ref a4, .int rg, .int hd, .int df, .ref a5, .ref a8, .long fl, .long ms, .long vo, .ref a9, .ref a10, .ref a13, .ref a14, .ref a15, .ref a16]))]) (k' := 0) (n' := 0) F (sw_runV (R := ({ frames := 1, cells := 0, slots := 0, locals := 21 } : Room)) (q0 := 0) (na := 0) F T.2.1 T.2.2.1 (k_X8_isFaulty l G a4 (-500) ws wd wr wf ww) [0] rfl (by decide) gX6_presentAlarms_X8_isFaulty rfl rfl rfl (by decide +kernel) ⟨Nat.le_of_ble_eq_true rfl, Nat.le_of_ble_eq_true rfl⟩ rfl rfl rfl rfl rfl (Nat.le_of_ble_eq_true rfl) dX6_presentAlarms_26 (Nat.le_of_ble_eq_true rfl) (Nat.le_of_ble_eq_true rfl)) [0] [1, 2, 3, 4] rfl rfl (by decide) (by decide) rfl rfl (fun r_285 u_286 h_287 => ?_)
          have e_288 : r_285 = f_X8_isFaulty_r wr := h_287
          refine sw_eq (ws' := [(a1, .inr (8, [.int 0, .int ts, .int td, .int tr, .int tf, .int tw])), (a2, .inr (8, [.int 0, .int us, .int ud, .int ur, .int uf, .int uw])), (a3, .inr (8, [.int 0, .int vs, .int vd, .int vr, .int vf, .int vw])), (h0, .inr (6, [.int tm, .int ch, .ref a1, .ref a2, .ref a3, .ref a4, .int rg, .int hd, .int df, .ref a5, .ref a8, .long fl, .long ms, .long vo, .ref a9, .ref a10, .ref a13, .ref a14, .ref a15, .ref a16])), (a4, .inr (8, [.int ((-500)), .int ws, .int wd, .int wr, .int wf, .int ww]))]) (lv' := [(2, .int 3), (1, .int x_271), (0, .ref h0)]) (st' := [.int r_285]) rfl rfl rfl ?_
          refine sw_if_eq (pc := 29) (tgt := 38) F dX6_presentAlarms_29 (by decide) (fun c_289 => ?_) (fun c_289 => ?_)
          · skip
            refine sw_iinc (pc := 38) (v := 4) (lv' := [(2, .int 4), (1, .int x_271), (0, .ref h0)]) F T.1 dX6_presentAlarms_38 (q := 0) rfl rfl (by decide) rfl ?_
            refine sw_goto (pc := 41) (tgt := 16) F dX6_presentAlarms_41 (by decide) ?_
            refine sw_iload_n (pc := 16) F dX6_presentAlarms_16 rfl 0 rfl ?_
            refine sw_iconst (pc := 17) (v := 4) F dX6_presentAlarms_17 rfl ?_
            refine sw_icmp_ge (pc := 18) (tgt := 44) F dX6_presentAlarms_18 (by decide) (fun _ => ?_) (fun c => absurd c (by decide))
            refine sw_iload_n (pc := 44) F dX6_presentAlarms_44 rfl 1 rfl ?_
            subst e_288
            subst e_279
            subst ex_271
            subst e_239
            subst ex_231
            subst e_159
            refine sw_perm (ws' := [(h0, .inr (6, [.int tm, .int ch, .ref a1, .ref a2, .ref a3, .ref a4, .int rg, .int hd, .int df, .ref a5, .ref a8, .long fl, .long ms, .long vo, .ref a9, .ref a10, .ref a13, .ref a14, .ref a15, .ref a16])), (a1, .inr (8, [.int 0, .int ts, .int td, .int tr, .int tf, .int tw])), (a2, .inr (8, [.int 0, .int us, .int ud, .int ur, .int uf, .int uw])), (a3, .inr (8, [.int 0, .int vs, .int vd, .int vr, .int vf, .int vw])), (a4, .inr (8, [.int ((-500)), .int ws, .int wd, .int wr, .int wf, .int ww]))]) [3, 0, 1, 2, 4] (by decide) rfl ?_
            exact sw_iret (pc := 45) F T rfl rfl () (by unfold f_X6_presentAlarms_r; rw [if_neg c_1, if_neg c_160, if_neg c_240, if_pos c_280, if_pos c_289]) rfl dX6_presentAlarms_45
          · skip
            refine sw_iload_n (pc := 32) F dX6_presentAlarms_32 rfl 1 rfl ?_
            refine sw_iconst (pc := 33) (v := 1) F dX6_presentAlarms_33 rfl ?_
            refine sw_iload_n (pc := 34) F dX6_presentAlarms_34 rfl 0 rfl ?_
            refine sw_ishl (pc := 35) F dX6_presentAlarms_35 ?_
            refine sw_eqt (v := .int 8) (by rfl) ?_
            refine sw_ior (pc := 36) F dX6_presentAlarms_36 ?_
            refine sw_topi (fun x_290 ex_290 => ?_)
            refine sw_istore_n (pc := 37) (lv' := [(1, .int x_290), (2, .int 3), (0, .ref h0)]) F T.1 dX6_presentAlarms_37 rfl (by decide) rfl ?_
            refine sw_iinc (pc := 38) (v := 4) (lv' := [(2, .int 4), (1, .int x_290), (0, .ref h0)]) F T.1 dX6_presentAlarms_38 (q := 1) rfl rfl (by decide) rfl ?_
            refine sw_goto (pc := 41) (tgt := 16) F dX6_presentAlarms_41 (by decide) ?_
            refine sw_iload_n (pc := 16) F dX6_presentAlarms_16 rfl 0 rfl ?_
            refine sw_iconst (pc := 17) (v := 4) F dX6_presentAlarms_17 rfl ?_
            refine sw_icmp_ge (pc := 18) (tgt := 44) F dX6_presentAlarms_18 (by decide) (fun _ => ?_) (fun c => absurd c (by decide))
            refine sw_iload_n (pc := 44) F dX6_presentAlarms_44 rfl 1 rfl ?_
            subst ex_290
            subst e_288
            subst e_279
            subst ex_271
            subst e_239
            subst ex_231
            subst e_159
            refine sw_perm (ws' := [(h0, .inr (6, [.int tm, .int ch, .ref a1, .ref a2, .ref a3, .ref a4, .int rg, .int hd, .int df, .ref a5, .ref a8, .long fl, .long ms, .long vo, .ref a9, .ref a10, .ref a13, .ref a14, .ref a15, .ref a16])), (a1, .inr (8, [.int 0, .int ts, .int td, .int tr, .int tf, .int tw])), (a2, .inr (8, [.int 0, .int us, .int ud, .int ur, .int uf, .int uw])), (a3, .inr (8, [.int 0, .int vs, .int vd, .int vr, .int vf, .int vw])), (a4, .inr (8, [.int ((-500)), .int ws, .int wd, .int wr, .int wf, .int ww]))]) [3, 0, 1, 2, 4] (by decide) rfl ?_
            exact sw_iret (pc := 45) F T rfl rfl () (by unfold f_X6_presentAlarms_r; rw [if_neg c_1, if_neg c_160, if_neg c_240, if_pos c_280, if_neg c_289]) rfl dX6_presentAlarms_45
        · skip
          refine sw_iload_n (pc := 32) F dX6_presentAlarms_32 rfl 1 rfl ?_
          refine sw_iconst (pc := 33) (v := 1) F dX6_presentAlarms_33 rfl ?_
          refine sw_iload_n (pc := 34) F dX6_presentAlarms_34 rfl 0 rfl ?_
          refine sw_ishl (pc := 35) F dX6_presentAlarms_35 ?_
          refine sw_eqt (v := .int 4) (by rfl) ?_
          refine sw_ior (pc := 36) F dX6_presentAlarms_36 ?_
          refine sw_topi (fun x_291 ex_291 => ?_)
          refine sw_istore_n (pc := 37) (lv' := [(1, .int x_291), (2, .int 2), (0, .ref h0)]) F T.1 dX6_presentAlarms_37 rfl (by decide) rfl ?_
          refine sw_iinc (pc := 38) (v := 3) (lv' := [(2, .int 3), (1, .int x_291), (0, .ref h0)]) F T.1 dX6_presentAlarms_38 (q := 1) rfl rfl (by decide) rfl ?_
          refine sw_goto (pc := 41) (tgt := 16) F dX6_presentAlarms_41 (by decide) ?_
          refine sw_iload_n (pc := 16) F dX6_presentAlarms_16 rfl 0 rfl ?_
          refine sw_iconst (pc := 17) (v := 4) F dX6_presentAlarms_17 rfl ?_
          refine sw_icmp_ge (pc := 18) (tgt := 44) F dX6_presentAlarms_18 (by decide) (fun c => absurd c (by decide)) (fun _ => ?_)
          refine sw_aload_n (pc := 21) F dX6_presentAlarms_21 rfl 2 rfl ?_
          refine sw_iload_n (pc := 22) F dX6_presentAlarms_22 rfl 0 rfl ?_
          refine sw_callr (pc := 23) (wr := [(a4, .inr (8, [.int ((-500)), .int ws, .int wd, .int wr, .int wf, .int ww])), (a1, .inr (8, [.int 0, .int ts, .int td, .int tr, .int tf, .int tw])), (a2, .inr (8, [.int 0, .int us, .int ud, .int ur, .int uf, .int uw])), (a3, .inr (8, [.int 0, .int vs, .int vd, .int vr, .int vf, .int vw]))]) (k' := 0) (n' := 0) F (sw_runV (R := ({ frames := 1, cells := 0, slots := 0, locals := 21 } : Room)) (q0 := 0) (na := 1) F T.2.1 T.2.2.1 (k_X6_transmitterAt_3 l G h0 a1 a2 a3 a4 a5 a8 a9 a10 a13 a14 a15 a16 tm ch rg hd df fl ms vo) [3] rfl (by decide) gX6_presentAlarms_X6_transmitterAt rfl rfl rfl (by decide +kernel) ⟨Nat.le_of_ble_eq_true rfl, Nat.le_of_ble_eq_true rfl⟩ rfl rfl rfl rfl rfl (Nat.le_of_ble_eq_true rfl) dX6_presentAlarms_23 (Nat.le_of_ble_eq_true rfl) (Nat.le_of_ble_eq_true rfl)) [3] [0, 1, 2, 4] rfl rfl (by decide) (by decide) rfl rfl (fun r_292 u_293 h_294 => ?_)
          have e_295 : r_292 = a4 := h_294
          refine sw_eqt (v := .ref a4) (by rw [e_295]) ?_
          refine sw_eq (ws' := [(a4, .inr (8, [.int ((-500)), .int ws, .int wd, .int wr, .int wf, .int ww])), (a1, .inr (8, [.int 0, .int ts, .int td, .int tr, .int tf, .int tw])), (a2, .inr (8, [.int 0, .int us, .int ud, .int ur, .int uf, .int uw])), (a3, .inr (8, [.int 0, .int vs, .int vd, .int vr, .int vf, .int vw])), (h0, .inr (6, [.int tm, .int ch, .ref a1, .ref a2, .ref a3, .ref a4, .int rg, .int hd, .int df, .ref a5, .ref a8, .long fl, .long ms, .long vo, .ref a9, .ref a10, .ref a13, .ref a14, .ref a15, .ref a16]))]) (lv' := [(2, .int 3), (1, .int x_291), (0, .ref h0)]) (st' := [.ref a4]) rfl rfl rfl ?_
          refine sw_calli (pc := 26) (wr := [(a1, .inr (8, [.int 0, .int ts, .int td, .int tr, .int tf, .int tw])), (a2, .inr (8, [.int 0, .int us, .int ud, .int ur, .int uf, .int uw])), (a3, .inr (8, [.int 0, .int vs, .int vd, .int vr, .int vf, .int vw])), (h0, .inr (6, [.int tm, .int ch, .ref a1, .ref a2, .ref a3, .ref a4, .int rg, .int hd, .int df, .ref a5, .ref a8, .long fl, .long ms, .long vo, .ref a9, .ref a10, .ref a13, .ref a14, .ref a15, .ref a16]))]) (k' := 0) (n' := 0) F (sw_runV (R := ({ frames := 1, cells := 0, slots := 0, locals := 21 } : Room)) (q0 := 0) (na := 0) F T.2.1 T.2.2.1 (k_X8_isFaulty l G a4 (-500) ws wd wr wf ww) [0] rfl (by decide) gX6_presentAlarms_X8_isFaulty rfl rfl rfl (by decide +kernel) ⟨Nat.le_of_ble_eq_true rfl, Nat.le_of_ble_eq_true rfl⟩ rfl rfl rfl rfl rfl (Nat.le_of_ble_eq_true rfl) dX6_presentAlarms_26 (Nat.le_of_ble_eq_true rfl) (Nat.le_of_ble_eq_true rfl)) [0] [1, 2, 3, 4] rfl rfl (by decide) (by decide) rfl rfl (fun r_296 u_297 h_298 => ?_)
          have e_299 : r_296 = f_X8_isFaulty_r wr := h_298
          refine sw_eq (ws' := [(a1, .inr (8, [.int 0, .int ts, .int td, .int tr, .int tf, .int tw])), (a2, .inr (8, [.int 0, .int us, .int ud, .int ur, .int uf, .int uw])), (a3, .inr (8, [.int 0, .int vs, .int vd, .int vr, .int vf, .int vw])), (h0, .inr (6, [.int tm, .int ch, .ref a1, .ref a2, .ref a3, .ref a4, .int rg, .int hd, .int df, .ref a5, .ref a8, .long fl, .long ms, .long vo, .ref a9, .ref a10, .ref a13, .ref a14, .ref a15, .ref a16])), (a4, .inr (8, [.int ((-500)), .int ws, .int wd, .int wr, .int wf, .int ww]))]) (lv' := [(2, .int 3), (1, .int x_291), (0, .ref h0)]) (st' := [.int r_296]) rfl rfl rfl ?_
          refine sw_if_eq (pc := 29) (tgt := 38) F dX6_presentAlarms_29 (by decide) (fun c_300 => ?_) (fun c_300 => ?_)
          · skip
            refine sw_iinc (pc := 38) (v := 4) (lv' := [(2, .int 4), (1, .int x_291), (0, .ref h0)]) F T.1 dX6_presentAlarms_38 (q := 0) rfl rfl (by decide) rfl ?_
            refine sw_goto (pc := 41) (tgt := 16) F dX6_presentAlarms_41 (by decide) ?_
            refine sw_iload_n (pc := 16) F dX6_presentAlarms_16 rfl 0 rfl ?_
            refine sw_iconst (pc := 17) (v := 4) F dX6_presentAlarms_17 rfl ?_
            refine sw_icmp_ge (pc := 18) (tgt := 44) F dX6_presentAlarms_18 (by decide) (fun _ => ?_) (fun c => absurd c (by decide))
            refine sw_iload_n (pc := 44) F dX6_presentAlarms_44 rfl 1 rfl ?_
            subst e_299
            subst ex_291
            subst e_279
            subst ex_271
            subst e_239
            subst ex_231
            subst e_159
            refine sw_perm (ws' := [(h0, .inr (6, [.int tm, .int ch, .ref a1, .ref a2, .ref a3, .ref a4, .int rg, .int hd, .int df, .ref a5, .ref a8, .long fl, .long ms, .long vo, .ref a9, .ref a10, .ref a13, .ref a14, .ref a15, .ref a16])), (a1, .inr (8, [.int 0, .int ts, .int td, .int tr, .int tf, .int tw])), (a2, .inr (8, [.int 0, .int us, .int ud, .int ur, .int uf, .int uw])), (a3, .inr (8, [.int 0, .int vs, .int vd, .int vr, .int vf, .int vw])), (a4, .inr (8, [.int ((-500)), .int ws, .int wd, .int wr, .int wf, .int ww]))]) [3, 0, 1, 2, 4] (by decide) rfl ?_
            exact sw_iret (pc := 45) F T rfl rfl () (by unfold f_X6_presentAlarms_r; rw [if_neg c_1, if_neg c_160, if_neg c_240, if_neg c_280, if_pos c_300]) rfl dX6_presentAlarms_45
          · skip
            refine sw_iload_n (pc := 32) F dX6_presentAlarms_32 rfl 1 rfl ?_
            refine sw_iconst (pc := 33) (v := 1) F dX6_presentAlarms_33 rfl ?_
            refine sw_iload_n (pc := 34) F dX6_presentAlarms_34 rfl 0 rfl ?_
            refine sw_ishl (pc := 35) F dX6_presentAlarms_35 ?_
            refine sw_eqt (v := .int 8) (by rfl) ?_
            refine sw_ior (pc := 36) F dX6_presentAlarms_36 ?_
            refine sw_topi (fun x_301 ex_301 => ?_)
            refine sw_istore_n (pc := 37) (lv' := [(1, .int x_301), (2, .int 3), (0, .ref h0)]) F T.1 dX6_presentAlarms_37 rfl (by decide) rfl ?_
            refine sw_iinc (pc := 38) (v := 4) (lv' := [(2, .int 4), (1, .int x_301), (0, .ref h0)]) F T.1 dX6_presentAlarms_38 (q := 1) rfl rfl (by decide) rfl ?_
            refine sw_goto (pc := 41) (tgt := 16) F dX6_presentAlarms_41 (by decide) ?_
            refine sw_iload_n (pc := 16) F dX6_presentAlarms_16 rfl 0 rfl ?_
            refine sw_iconst (pc := 17) (v := 4) F dX6_presentAlarms_17 rfl ?_
            refine sw_icmp_ge (pc := 18) (tgt := 44) F dX6_presentAlarms_18 (by decide) (fun _ => ?_) (fun c => absurd c (by decide))
            refine sw_iload_n (pc := 44) F dX6_presentAlarms_44 rfl 1 rfl ?_
            subst ex_301
            subst e_299
            subst ex_291
            subst e_279
            subst ex_271
            subst e_239
            subst ex_231
            subst e_159
            refine sw_perm (ws' := [(h0, .inr (6, [.int tm, .int ch, .ref a1, .ref a2, .ref a3, .ref a4, .int rg, .int hd, .int df, .ref a5, .ref a8, .long fl, .long ms, .long vo, .ref a9, .ref a10, .ref a13, .ref a14, .ref a15, .ref a16])), (a1, .inr (8, [.int 0, .int ts, .int td, .int tr, .int tf, .int tw])), (a2, .inr (8, [.int 0, .int us, .int ud, .int ur, .int uf, .int uw])), (a3, .inr (8, [.int 0, .int vs, .int vd, .int vr, .int vf, .int vw])), (a4, .inr (8, [.int ((-500)), .int ws, .int wd, .int wr, .int wf, .int ww]))]) [3, 0, 1, 2, 4] (by decide) rfl ?_
            exact sw_iret (pc := 45) F T rfl rfl () (by unfold f_X6_presentAlarms_r; rw [if_neg c_1, if_neg c_160, if_neg c_240, if_neg c_280, if_neg c_300]) rfl dX6_presentAlarms_45
def f_X6_countInHour_o6_0 (fl : Int64) (um : Int64) : Int64 := (um + fl)
def f_X6_countInHour_o6_1 (hd : Int32) (tr : Int32) (ur : Int32) (vr : Int32) (wr : Int32) (ua : Int32) : Int32 := (ua ||| (f_X6_presentAlarms_r hd tr ur vr wr))
def f_X6_countInHour_o7_0 (cw : Int32) (uwn : Int32) : Int32 := if cw = 0 then (uwn) else ((f_X7_add_o0_0 uwn))
def f_X6_countInHour_o7_1 (df : Int32) (cw : Int32) (uwd : Int64) : Int64 := if cw = 0 then (uwd) else ((f_X7_add_o0_1 uwd df))
def f_X6_countInHour_o7_2 (vf : Int32) (cw : Int32) (uwp : Int64) : Int64 := if cw = 0 then (uwp) else ((f_X7_add_o0_2 uwp vf))
def f_X6_countInHour_o7_3 (wf : Int32) (cw : Int32) (uwt : Int64) : Int64 := if cw = 0 then (uwt) else ((f_X7_add_o0_3 uwt wf))
def f_X6_countInHour_o8_0 (uln : Int32) : Int32 := (f_X7_add_o0_0 uln)
def f_X6_countInHour_o8_1 (df : Int32) (uld : Int64) : Int64 := (f_X7_add_o0_1 uld df)
def f_X6_countInHour_o8_2 (vf : Int32) (ulp : Int64) : Int64 := (f_X7_add_o0_2 ulp vf)
def f_X6_countInHour_o8_3 (wf : Int32) (ult : Int64) : Int64 := (f_X7_add_o0_3 ult wf)
set_option maxHeartbeats 4000000 in
set_option maxRecDepth 100000 in
theorem k_X6_countInHour (l : Launch) (G : sw_E) (h0 : Nat) (a1 : Nat) (a2 : Nat) (a3 : Nat) (a4 : Nat) (a5 : Nat) (a8 : Nat) (a9 : Nat) (a10 : Nat) (a13 : Nat) (a14 : Nat) (a15 : Nat) (a16 : Nat) (a11 : Nat) (a12 : Nat) (tm : Int32) (ch : Int32) (rg : Int32) (hd : Int32) (df : Int32) (fl : Int64) (ms : Int64) (vo : Int64) (ts : Int32) (td : Int32) (tr : Int32) (tf : Int32) (tw : Int32) (us : Int32) (ud : Int32) (ur : Int32) (uf : Int32) (uw : Int32) (vs : Int32) (vd : Int32) (vr : Int32) (vf : Int32) (vw : Int32) (ws : Int32) (wd : Int32) (wr : Int32) (wf : Int32) (ww : Int32) (cf : Int32) (cn : Int32) (cw : Int32) (um : Int64) (ua : Int32) (uwn : Int32) (uwd : Int64) (uwp : Int64) (uwt : Int64) (uln : Int32) (uld : Int64) (ulp : Int64) (ult : Int64)  : sw_M l G yX6_countInHour wsX6_countInHour ({ frames := 2, cells := 0, slots := 0, locals := 43 } : Room) [.ref h0] [(h0, .inr (6, [.int tm, .int ch, .ref a1, .ref a2, .ref a3, .ref a4, .int rg, .int hd, .int df, .ref a5, .ref a8, .long fl, .long ms, .long vo, .ref a9, .ref a10, .ref a13, .ref a14, .ref a15, .ref a16])), (a1, .inr (8, [.int 0, .int ts, .int td, .int tr, .int tf, .int tw])), (a2, .inr (8, [.int 0, .int us, .int ud, .int ur, .int uf, .int uw])), (a3, .inr (8, [.int 0, .int vs, .int vd, .int vr, .int vf, .int vw])), (a4, .inr (8, [.int ((-500)), .int ws, .int wd, .int wr, .int wf, .int ww])), (a8, .inr (1, [.int cf, .int cn, .int cw])), (a10, .inr (5, [.long um, .int ua, .ref a11, .ref a12])), (a11, .inr (7, [.int uwn, .long uwd, .long uwp, .long uwt])), (a12, .inr (7, [.int uln, .long uld, .long ulp, .long ult]))] (sw_QV G (S := Int64 × Int32 × Int32 × Int64 × Int64 × Int64 × Int32 × Int64 × Int64 × Int64) (fun (u : Int64 × Int32 × Int32 × Int64 × Int64 × Int64 × Int32 × Int64 × Int64 × Int64) => u.1 = f_X6_countInHour_o6_0 fl um ∧ u.2.1 = f_X6_countInHour_o6_1 hd tr ur vr wr ua ∧ u.2.2.1 = f_X6_countInHour_o7_0 cw uwn ∧ u.2.2.2.1 = f_X6_countInHour_o7_1 df cw uwd ∧ u.2.2.2.2.1 = f_X6_countInHour_o7_2 vf cw uwp ∧ u.2.2.2.2.2.1 = f_X6_countInHour_o7_3 wf cw uwt ∧ u.2.2.2.2.2.2.1 = f_X6_countInHour_o8_0 uln ∧ u.2.2.2.2.2.2.2.1 = f_X6_countInHour_o8_1 df uld ∧ u.2.2.2.2.2.2.2.2.1 = f_X6_countInHour_o8_2 vf ulp ∧ u.2.2.2.2.2.2.2.2.2 = f_X6_countInHour_o8_3 wf ult) (fun u => [(h0, .inr (6, [.int tm, .int ch, .ref a1, .ref a2, .ref a3, .ref a4, .int rg, .int hd, .int df, .ref a5, .ref a8, .long fl, .long ms, .long vo, .ref a9, .ref a10, .ref a13, .ref a14, .ref a15, .ref a16])), (a1, .inr (8, [.int 0, .int ts, .int td, .int tr, .int tf, .int tw])), (a2, .inr (8, [.int 0, .int us, .int ud, .int ur, .int uf, .int uw])), (a3, .inr (8, [.int 0, .int vs, .int vd, .int vr, .int vf, .int vw])), (a4, .inr (8, [.int ((-500)), .int ws, .int wd, .int wr, .int wf, .int ww])), (a8, .inr (1, [.int cf, .int cn, .int cw])), (a10, .inr (5, [.long u.1, .int u.2.1, .ref a11, .ref a12])), (a11, .inr (7, [.int u.2.2.1, .long u.2.2.2.1, .long u.2.2.2.2.1, .long u.2.2.2.2.2.1])), (a12, .inr (7, [.int u.2.2.2.2.2.2.1, .long u.2.2.2.2.2.2.2.1, .long u.2.2.2.2.2.2.2.2.1, .long u.2.2.2.2.2.2.2.2.2]))])) 0 0 := by
  refine sw_start (cc := cX6_countInHour) (maxL := 1) (ret := none) (lv := [(0, .ref h0)]) (own := RX6) (nm := "countInHour") (by decide +kernel) rfl rfl rfl rfl (Nat.le_of_ble_eq_true rfl) (fun C F T => ?_)
  have in1 : ∀ w ∈ u_ws RX1 TX1 3, w ∈ wsX6_countInHour := fun w h => List.mem_cons_of_mem _ (List.mem_append_left _ (List.mem_append_right _ (h)))
  have in5 : ∀ w ∈ u_ws RX5 TX5 4, w ∈ wsX6_countInHour := fun w h => List.mem_cons_of_mem _ (List.mem_append_left _ (List.mem_append_left _ (List.mem_append_left _ (List.mem_append_right _ (h)))))
  have in6 : ∀ w ∈ u_ws RX6 TX6 20, w ∈ wsX6_countInHour := fun w h => List.mem_cons_of_mem _ (List.mem_append_left _ (List.mem_append_left _ (List.mem_append_left _ (List.mem_append_left _ (List.mem_append_right _ (h))))))
  have in8 : ∀ w ∈ u_ws RX8 TX8 6, w ∈ wsX6_countInHour := fun w h => List.mem_cons_of_mem _ (List.mem_append_left _ (List.mem_append_left _ (List.mem_append_right _ (h))))
  refine sw_aload_n (pc := 0) F dX6_countInHour_0 rfl 0 rfl ?_
  refine sw_get (pc := 1) (Cn := RX6) (T := TX6) (N := 20) (ci := 6) (v := .ref a10) F in6 0 rfl rfl 15 (by decide) rfl (List.mem_of_getElem? (i := 1) rfl) rfl dX6_countInHour_1 ?_
  refine sw_dup (pc := 4) F dX6_countInHour_4 rfl ?_
  refine sw_get (pc := 5) (Cn := RX5) (T := TX5) (N := 4) (ci := 5) (v := .long um) F in5 6 rfl rfl 0 (by decide) rfl (List.mem_of_getElem? (i := 2) rfl) rfl dX6_countInHour_5 ?_
  refine sw_aload_n (pc := 8) F dX6_countInHour_8 rfl 0 rfl ?_
  refine sw_get (pc := 9) (Cn := RX6) (T := TX6) (N := 20) (ci := 6) (v := .long fl) F in6 0 rfl rfl 11 (by decide) rfl (List.mem_of_getElem? (i := 3) rfl) rfl dX6_countInHour_9 ?_
  refine sw_ladd (pc := 12) F dX6_countInHour_12 ?_
  refine sw_topl (fun x_1 ex_1 => ?_)
  refine sw_put (pc := 13) (Cn := RX5) (T := TX5) (N := 4) (ci := 5) (ty0 := tyX5) (ws' := [(h0, .inr (6, [.int tm, .int ch, .ref a1, .ref a2, .ref a3, .ref a4, .int rg, .int hd, .int df, .ref a5, .ref a8, .long fl, .long ms, .long vo, .ref a9, .ref a10, .ref a13, .ref a14, .ref a15, .ref a16])), (a1, .inr (8, [.int 0, .int ts, .int td, .int tr, .int tf, .int tw])), (a2, .inr (8, [.int 0, .int us, .int ud, .int ur, .int uf, .int uw])), (a3, .inr (8, [.int 0, .int vs, .int vd, .int vr, .int vf, .int vw])), (a4, .inr (8, [.int ((-500)), .int ws, .int wd, .int wr, .int wf, .int ww])), (a8, .inr (1, [.int cf, .int cn, .int cw])), (a10, .inr (5, [.long x_1, .int ua, .ref a11, .ref a12])), (a11, .inr (7, [.int uwn, .long uwd, .long uwp, .long uwt])), (a12, .inr (7, [.int uln, .long uld, .long ulp, .long ult]))]) F in5 tyX5_ok nmX5 6 rfl rfl 0 (by decide) rfl (List.mem_of_getElem? (i := 2) rfl) rfl rfl rfl (Nat.le_of_ble_eq_true rfl) dX6_countInHour_13 rfl ?_
  refine sw_aload_n (pc := 16) F dX6_countInHour_16 rfl 0 rfl ?_
  refine sw_get (pc := 17) (Cn := RX6) (T := TX6) (N := 20) (ci := 6) (v := .ref a10) F in6 0 rfl rfl 15 (by decide) rfl (List.mem_of_getElem? (i := 1) rfl) rfl dX6_countInHour_17 ?_
  refine sw_dup (pc := 20) F dX6_countInHour_20 rfl ?_
  refine sw_get (pc := 21) (Cn := RX5) (T := TX5) (N := 4) (ci := 5) (v := .int ua) F in5 6 rfl rfl 1 (by decide) rfl (List.mem_of_getElem? (i := 4) rfl) rfl dX6_countInHour_21 ?_
  refine sw_aload_n (pc := 24) F dX6_countInHour_24 rfl 0 rfl ?_
  refine sw_calli (pc := 25) (wr := [(a8, .inr (1, [.int cf, .int cn, .int cw])), (a10, .inr (5, [.long x_1, .int ua, .ref a11, .ref a12])), (a11, .inr (7, [.int uwn, .long uwd, .long uwp, .long uwt])), (a12, .inr (7, [.int uln, .long uld, .long ulp, .long ult]))]) (k' := 0) (n' := 0) F (sw_runV (R := ({ frames := 2, cells := 0, slots := 0, locals := 43 } : Room)) (q0 := 0) (na := 0) F T.2.1 T.2.2.1 (k_X6_presentAlarms l G h0 a1 a2 a3 a4 a5 a8 a9 a10 a13 a14 a15 a16 tm ch rg hd df fl ms vo ts td tr tf tw us ud ur uf uw vs vd vr vf vw ws wd wr wf ww) [0, 1, 2, 3, 4] rfl (by decide) gX6_countInHour_X6_presentAlarms rfl rfl rfl (by decide +kernel) ⟨Nat.le_of_ble_eq_true rfl, Nat.le_of_ble_eq_true rfl⟩ rfl rfl rfl rfl rfl (Nat.le_of_ble_eq_true rfl) dX6_countInHour_25 (Nat.le_of_ble_eq_true rfl) (Nat.le_of_ble_eq_true rfl)) [0, 1, 2, 3, 4] [5, 6, 7, 8] rfl rfl (by decide) (by decide) rfl rfl (fun r_2 u_3 h_4 => ?_)
  have e_5 : r_2 = f_X6_presentAlarms_r hd tr ur vr wr := h_4
  refine sw_eq (ws' := [(a8, .inr (1, [.int cf, .int cn, .int cw])), (a10, .inr (5, [.long x_1, .int ua, .ref a11, .ref a12])), (a11, .inr (7, [.int uwn, .long uwd, .long uwp, .long uwt])), (a12, .inr (7, [.int uln, .long uld, .long ulp, .long ult])), (h0, .inr (6, [.int tm, .int ch, .ref a1, .ref a2, .ref a3, .ref a4, .int rg, .int hd, .int df, .ref a5, .ref a8, .long fl, .long ms, .long vo, .ref a9, .ref a10, .ref a13, .ref a14, .ref a15, .ref a16])), (a1, .inr (8, [.int 0, .int ts, .int td, .int tr, .int tf, .int tw])), (a2, .inr (8, [.int 0, .int us, .int ud, .int ur, .int uf, .int uw])), (a3, .inr (8, [.int 0, .int vs, .int vd, .int vr, .int vf, .int vw])), (a4, .inr (8, [.int ((-500)), .int ws, .int wd, .int wr, .int wf, .int ww]))]) (lv' := [(0, .ref h0)]) (st' := [.int r_2, .int ua, .ref a10]) rfl rfl rfl ?_
  refine sw_ior (pc := 28) F dX6_countInHour_28 ?_
  refine sw_topi (fun x_6 ex_6 => ?_)
  refine sw_put (pc := 29) (Cn := RX5) (T := TX5) (N := 4) (ci := 5) (ty0 := tyX5) (ws' := [(a8, .inr (1, [.int cf, .int cn, .int cw])), (a10, .inr (5, [.long x_1, .int x_6, .ref a11, .ref a12])), (a11, .inr (7, [.int uwn, .long uwd, .long uwp, .long uwt])), (a12, .inr (7, [.int uln, .long uld, .long ulp, .long ult])), (h0, .inr (6, [.int tm, .int ch, .ref a1, .ref a2, .ref a3, .ref a4, .int rg, .int hd, .int df, .ref a5, .ref a8, .long fl, .long ms, .long vo, .ref a9, .ref a10, .ref a13, .ref a14, .ref a15, .ref a16])), (a1, .inr (8, [.int 0, .int ts, .int td, .int tr, .int tf, .int tw])), (a2, .inr (8, [.int 0, .int us, .int ud, .int ur, .int uf, .int uw])), (a3, .inr (8, [.int 0, .int vs, .int vd, .int vr, .int vf, .int vw])), (a4, .inr (8, [.int ((-500)), .int ws, .int wd, .int wr, .int wf, .int ww]))]) F in5 tyX5_ok nmX5 1 rfl rfl 1 (by decide) rfl (List.mem_of_getElem? (i := 4) rfl) rfl rfl rfl (Nat.le_of_ble_eq_true rfl) dX6_countInHour_29 rfl ?_
  refine sw_aload_n (pc := 32) F dX6_countInHour_32 rfl 0 rfl ?_
  refine sw_get (pc := 33) (Cn := RX6) (T := TX6) (N := 20) (ci := 6) (v := .ref a10) F in6 4 rfl rfl 15 (by decide) rfl (List.mem_of_getElem? (i := 1) rfl) rfl dX6_countInHour_33 ?_
  refine sw_get (pc := 36) (Cn := RX5) (T := TX5) (N := 4) (ci := 5) (v := .ref a12) F in5 1 rfl rfl 3 (by decide) rfl (List.mem_of_getElem? (i := 5) rfl) rfl dX6_countInHour_36 ?_
  refine sw_aload_n (pc := 39) F dX6_countInHour_39 rfl 0 rfl ?_
  refine sw_get (pc := 40) (Cn := RX6) (T := TX6) (N := 20) (ci := 6) (v := .int df) F in6 4 rfl rfl 8 (by decide) rfl (List.mem_of_getElem? (i := 6) rfl) rfl dX6_countInHour_40 ?_
  refine sw_aload_n (pc := 43) F dX6_countInHour_43 rfl 0 rfl ?_
  refine sw_get (pc := 44) (Cn := RX6) (T := TX6) (N := 20) (ci := 6) (v := .ref a3) F in6 4 rfl rfl 4 (by decide) rfl (List.mem_of_getElem? (i := 7) rfl) rfl dX6_countInHour_44 ?_
  refine sw_get (pc := 47) (Cn := RX8) (T := TX8) (N := 6) (ci := 8) (v := .int vf) F in8 7 rfl rfl 4 (by decide) rfl (List.mem_of_getElem? (i := 8) rfl) rfl dX6_countInHour_47 ?_
  refine sw_aload_n (pc := 50) F dX6_countInHour_50 rfl 0 rfl ?_
  refine sw_get (pc := 51) (Cn := RX6) (T := TX6) (N := 20) (ci := 6) (v := .ref a4) F in6 4 rfl rfl 5 (by decide) rfl (List.mem_of_getElem? (i := 9) rfl) rfl dX6_countInHour_51 ?_
  refine sw_get (pc := 54) (Cn := RX8) (T := TX8) (N := 6) (ci := 8) (v := .int wf) F in8 8 rfl rfl 4 (by decide) rfl (List.mem_of_getElem? (i := 8) rfl) rfl dX6_countInHour_54 ?_
  refine sw_callv (pc := 57) (wr := [(a8, .inr (1, [.int cf, .int cn, .int cw])), (a10, .inr (5, [.long x_1, .int x_6, .ref a11, .ref a12])), (a11, .inr (7, [.int uwn, .long uwd, .long uwp, .long uwt])), (h0, .inr (6, [.int tm, .int ch, .ref a1, .ref a2, .ref a3, .ref a4, .int rg, .int hd, .int df, .ref a5, .ref a8, .long fl, .long ms, .long vo, .ref a9, .ref a10, .ref a13, .ref a14, .ref a15, .ref a16])), (a1, .inr (8, [.int 0, .int ts, .int td, .int tr, .int tf, .int tw])), (a2, .inr (8, [.int 0, .int us, .int ud, .int ur, .int uf, .int uw])), (a3, .inr (8, [.int 0, .int vs, .int vd, .int vr, .int vf, .int vw])), (a4, .inr (8, [.int ((-500)), .int ws, .int wd, .int wr, .int wf, .int ww]))]) (k' := 0) (n' := 0) F (sw_runV (R := ({ frames := 2, cells := 0, slots := 0, locals := 43 } : Room)) (q0 := 0) (na := 3) F T.2.1 T.2.2.1 (k_X7_add l G a12 uln uld ulp ult df vf wf) [3] rfl (by decide) gX6_countInHour_X7_add rfl rfl rfl (by decide +kernel) ⟨Nat.le_of_ble_eq_true rfl, Nat.le_of_ble_eq_true rfl⟩ rfl rfl rfl rfl rfl (Nat.le_of_ble_eq_true rfl) dX6_countInHour_57 (Nat.le_of_ble_eq_true rfl) (Nat.le_of_ble_eq_true rfl)) [3] [0, 1, 2, 4, 5, 6, 7, 8] rfl rfl (by decide) (by decide) rfl rfl (fun u_8 h_9 => ?_)
  obtain ⟨o_10, o_11, o_12, o_13⟩ := u_8
  obtain ⟨e_14, e_15, e_16, e_17⟩ : o_10 = f_X7_add_o0_0 uln ∧ o_11 = f_X7_add_o0_1 uld df ∧ o_12 = f_X7_add_o0_2 ulp vf ∧ o_13 = f_X7_add_o0_3 ult wf := h_9
  refine sw_eq (ws' := [(a8, .inr (1, [.int cf, .int cn, .int cw])), (a10, .inr (5, [.long x_1, .int x_6, .ref a11, .ref a12])), (a11, .inr (7, [.int uwn, .long uwd, .long uwp, .long uwt])), (h0, .inr (6, [.int tm, .int ch, .ref a1, .ref a2, .ref a3, .ref a4, .int rg, .int hd, .int df, .ref a5, .ref a8, .long fl, .long ms, .long vo, .ref a9, .ref a10, .ref a13, .ref a14, .ref a15, .ref a16])), (a1, .inr (8, [.int 0, .int ts, .int td, .int tr, .int tf, .int tw])), (a2, .inr (8, [.int 0, .int us, .int ud, .int ur, .int uf, .int uw])), (a3, .inr (8, [.int 0, .int vs, .int vd, .int vr, .int vf, .int vw])), (a4, .inr (8, [.int ((-500)), .int ws, .int wd, .int wr, .int wf, .int ww])), (a12, .inr (7, [.int o_10, .long o_11, .long o_12, .long o_13]))]) (lv' := [(0, .ref h0)]) (st' := []) rfl rfl rfl ?_
  refine sw_aload_n (pc := 60) F dX6_countInHour_60 rfl 0 rfl ?_
  refine sw_get (pc := 61) (Cn := RX6) (T := TX6) (N := 20) (ci := 6) (v := .ref a8) F in6 3 rfl rfl 10 (by decide) rfl (List.mem_of_getElem? (i := 10) rfl) rfl dX6_countInHour_61 ?_
  refine sw_get (pc := 64) (Cn := RX1) (T := TX1) (N := 3) (ci := 1) (v := .int cw) F in1 0 rfl rfl 2 (by decide) rfl (List.mem_of_getElem? (i := 11) rfl) rfl dX6_countInHour_64 ?_
  refine sw_if_eq (pc := 67) (tgt := 98) F dX6_countInHour_67 (by decide) (fun c_18 => ?_) (fun c_18 => ?_)
  · skip
    subst e_17
    subst e_16
    subst e_15
    subst e_14
    subst ex_6
    subst e_5
    subst ex_1
    refine sw_perm (ws' := [(h0, .inr (6, [.int tm, .int ch, .ref a1, .ref a2, .ref a3, .ref a4, .int rg, .int hd, .int df, .ref a5, .ref a8, .long fl, .long ms, .long vo, .ref a9, .ref a10, .ref a13, .ref a14, .ref a15, .ref a16])), (a1, .inr (8, [.int 0, .int ts, .int td, .int tr, .int tf, .int tw])), (a2, .inr (8, [.int 0, .int us, .int ud, .int ur, .int uf, .int uw])), (a3, .inr (8, [.int 0, .int vs, .int vd, .int vr, .int vf, .int vw])), (a4, .inr (8, [.int ((-500)), .int ws, .int wd, .int wr, .int wf, .int ww])), (a8, .inr (1, [.int cf, .int cn, .int cw])), (a10, .inr (5, [.long ((um + fl)), .int ((ua ||| (f_X6_presentAlarms_r hd tr ur vr wr))), .ref a11, .ref a12])), (a11, .inr (7, [.int uwn, .long uwd, .long uwp, .long uwt])), (a12, .inr (7, [.int ((f_X7_add_o0_0 uln)), .long ((f_X7_add_o0_1 uld df)), .long ((f_X7_add_o0_2 ulp vf)), .long ((f_X7_add_o0_3 ult wf))]))]) [3, 4, 5, 6, 7, 0, 1, 2, 8] (by decide) rfl ?_
    exact sw_vret (pc := 98) F T ((um + fl), (ua ||| (f_X6_presentAlarms_r hd tr ur vr wr)), uwn, uwd, uwp, uwt, (f_X7_add_o0_0 uln), (f_X7_add_o0_1 uld df), (f_X7_add_o0_2 ulp vf), (f_X7_add_o0_3 ult wf)) ⟨rfl, rfl, (by unfold f_X6_countInHour_o7_0; rw [if_pos c_18]), (by unfold f_X6_countInHour_o7_1; rw [if_pos c_18]), (by unfold f_X6_countInHour_o7_2; rw [if_pos c_18]), (by unfold f_X6_countInHour_o7_3; rw [if_pos c_18]), rfl, rfl, rfl, rfl⟩ rfl dX6_countInHour_98
  · skip
    refine sw_aload_n (pc := 70) F dX6_countInHour_70 rfl 0 rfl ?_
    refine sw_get (pc := 71) (Cn := RX6) (T := TX6) (N := 20) (ci := 6) (v := .ref a10) F in6 3 rfl rfl 15 (by decide) rfl (List.mem_of_getElem? (i := 1) rfl) rfl dX6_countInHour_71 ?_
    refine sw_get (pc := 74) (Cn := RX5) (T := TX5) (N := 4) (ci := 5) (v := .ref a11) F in5 1 rfl rfl 2 (by decide) rfl (List.mem_of_getElem? (i := 12) rfl) rfl dX6_countInHour_74 ?_
    refine sw_aload_n (pc := 77) F dX6_countInHour_77 rfl 0 rfl ?_
    refine sw_get (pc := 78) (Cn := RX6) (T := TX6) (N := 20) (ci := 6) (v := .int df) F in6 3 rfl rfl 8 (by decide) rfl (List.mem_of_getElem? (i := 6) rfl) rfl dX6_countInHour_78 ?_
    refine sw_aload_n (pc := 81) F dX6_countInHour_81 rfl 0 rfl ?_
    refine sw_get (pc := 82) (Cn := RX6) (T := TX6) (N := 20) (ci := 6) (v := .ref a3) F in6 3 rfl rfl 4 (by decide) rfl (List.mem_of_getElem? (i := 7) rfl) rfl dX6_countInHour_82 ?_
    refine sw_get (pc := 85) (Cn := RX8) (T := TX8) (N := 6) (ci := 8) (v := .int vf) F in8 6 rfl rfl 4 (by decide) rfl (List.mem_of_getElem? (i := 8) rfl) rfl dX6_countInHour_85 ?_
    refine sw_aload_n (pc := 88) F dX6_countInHour_88 rfl 0 rfl ?_
    refine sw_get (pc := 89) (Cn := RX6) (T := TX6) (N := 20) (ci := 6) (v := .ref a4) F in6 3 rfl rfl 5 (by decide) rfl (List.mem_of_getElem? (i := 9) rfl) rfl dX6_countInHour_89 ?_
    refine sw_get (pc := 92) (Cn := RX8) (T := TX8) (N := 6) (ci := 8) (v := .int wf) F in8 7 rfl rfl 4 (by decide) rfl (List.mem_of_getElem? (i := 8) rfl) rfl dX6_countInHour_92 ?_
    refine sw_callv (pc := 95) (wr := [(a8, .inr (1, [.int cf, .int cn, .int cw])), (a10, .inr (5, [.long x_1, .int x_6, .ref a11, .ref a12])), (h0, .inr (6, [.int tm, .int ch, .ref a1, .ref a2, .ref a3, .ref a4, .int rg, .int hd, .int df, .ref a5, .ref a8, .long fl, .long ms, .long vo, .ref a9, .ref a10, .ref a13, .ref a14, .ref a15, .ref a16])), (a1, .inr (8, [.int 0, .int ts, .int td, .int tr, .int tf, .int tw])), (a2, .inr (8, [.int 0, .int us, .int ud, .int ur, .int uf, .int uw])), (a3, .inr (8, [.int 0, .int vs, .int vd, .int vr, .int vf, .int vw])), (a4, .inr (8, [.int ((-500)), .int ws, .int wd, .int wr, .int wf, .int ww])), (a12, .inr (7, [.int o_10, .long o_11, .long o_12, .long o_13]))]) (k' := 0) (n' := 0) F (sw_runV (R := ({ frames := 2, cells := 0, slots := 0, locals := 43 } : Room)) (q0 := 0) (na := 3) F T.2.1 T.2.2.1 (k_X7_add l G a11 uwn uwd uwp uwt df vf wf) [2] rfl (by decide) gX6_countInHour_X7_add rfl rfl rfl (by decide +kernel) ⟨Nat.le_of_ble_eq_true rfl, Nat.le_of_ble_eq_true rfl⟩ rfl rfl rfl rfl rfl (Nat.le_of_ble_eq_true rfl) dX6_countInHour_95 (Nat.le_of_ble_eq_true rfl) (Nat.le_of_ble_eq_true rfl)) [2] [0, 1, 3, 4, 5, 6, 7, 8] rfl rfl (by decide) (by decide) rfl rfl (fun u_20 h_21 => ?_)
    obtain ⟨o_22, o_23, o_24, o_25⟩ := u_20
    obtain ⟨e_26, e_27, e_28, e_29⟩ : o_22 = f_X7_add_o0_0 uwn ∧ o_23 = f_X7_add_o0_1 uwd df ∧ o_24 = f_X7_add_o0_2 uwp vf ∧ o_25 = f_X7_add_o0_3 uwt wf := h_21
    refine sw_eq (ws' := [(a8, .inr (1, [.int cf, .int cn, .int cw])), (a10, .inr (5, [.long x_1, .int x_6, .ref a11, .ref a12])), (h0, .inr (6, [.int tm, .int ch, .ref a1, .ref a2, .ref a3, .ref a4, .int rg, .int hd, .int df, .ref a5, .ref a8, .long fl, .long ms, .long vo, .ref a9, .ref a10, .ref a13, .ref a14, .ref a15, .ref a16])), (a1, .inr (8, [.int 0, .int ts, .int td, .int tr, .int tf, .int tw])), (a2, .inr (8, [.int 0, .int us, .int ud, .int ur, .int uf, .int uw])), (a3, .inr (8, [.int 0, .int vs, .int vd, .int vr, .int vf, .int vw])), (a4, .inr (8, [.int ((-500)), .int ws, .int wd, .int wr, .int wf, .int ww])), (a12, .inr (7, [.int o_10, .long o_11, .long o_12, .long o_13])), (a11, .inr (7, [.int o_22, .long o_23, .long o_24, .long o_25]))]) (lv' := [(0, .ref h0)]) (st' := []) rfl rfl rfl ?_
    subst e_29
    subst e_28
    subst e_27
    subst e_26
    subst e_17
    subst e_16
    subst e_15
    subst e_14
    subst ex_6
    subst e_5
    subst ex_1
    refine sw_perm (ws' := [(h0, .inr (6, [.int tm, .int ch, .ref a1, .ref a2, .ref a3, .ref a4, .int rg, .int hd, .int df, .ref a5, .ref a8, .long fl, .long ms, .long vo, .ref a9, .ref a10, .ref a13, .ref a14, .ref a15, .ref a16])), (a1, .inr (8, [.int 0, .int ts, .int td, .int tr, .int tf, .int tw])), (a2, .inr (8, [.int 0, .int us, .int ud, .int ur, .int uf, .int uw])), (a3, .inr (8, [.int 0, .int vs, .int vd, .int vr, .int vf, .int vw])), (a4, .inr (8, [.int ((-500)), .int ws, .int wd, .int wr, .int wf, .int ww])), (a8, .inr (1, [.int cf, .int cn, .int cw])), (a10, .inr (5, [.long ((um + fl)), .int ((ua ||| (f_X6_presentAlarms_r hd tr ur vr wr))), .ref a11, .ref a12])), (a11, .inr (7, [.int ((f_X7_add_o0_0 uwn)), .long ((f_X7_add_o0_1 uwd df)), .long ((f_X7_add_o0_2 uwp vf)), .long ((f_X7_add_o0_3 uwt wf))])), (a12, .inr (7, [.int ((f_X7_add_o0_0 uln)), .long ((f_X7_add_o0_1 uld df)), .long ((f_X7_add_o0_2 ulp vf)), .long ((f_X7_add_o0_3 ult wf))]))]) [2, 3, 4, 5, 6, 0, 1, 8, 7] (by decide) rfl ?_
    exact sw_vret (pc := 98) F T ((um + fl), (ua ||| (f_X6_presentAlarms_r hd tr ur vr wr)), (f_X7_add_o0_0 uwn), (f_X7_add_o0_1 uwd df), (f_X7_add_o0_2 uwp vf), (f_X7_add_o0_3 uwt wf), (f_X7_add_o0_0 uln), (f_X7_add_o0_1 uld df), (f_X7_add_o0_2 ulp vf), (f_X7_add_o0_3 ult wf)) ⟨rfl, rfl, (by unfold f_X6_countInHour_o7_0; rw [if_neg c_18]), (by unfold f_X6_countInHour_o7_1; rw [if_neg c_18]), (by unfold f_X6_countInHour_o7_2; rw [if_neg c_18]), (by unfold f_X6_countInHour_o7_3; rw [if_neg c_18]), rfl, rfl, rfl, rfl⟩ rfl dX6_countInHour_98
def f_X6_recordHour_o4_3 (go : Int32) (gn : Int32) : Int32 := (f_X4_addRow_o0_3 24 go gn)
def f_X6_recordHour_o4_4 (gn : Int32) : Int32 := (f_X4_addRow_o0_4 24 gn)
def f_X6_recordHour_o5 (tm : Int32) (um : Int64) (ua : Int32) (uwn : Int32) (uwd : Int64) (uwp : Int64) (uwt : Int64) (uln : Int32) (uld : Int64) (ulp : Int64) (ult : Int64) (go : Int32) (gn : Int32) (gf : Nat → Int64) : Nat → Int64 := if uwn ≤ 0 then ((f_X4_put_o1 168 24 7 (f_X4_addRow_o0_3 24 go gn) (f_X4_addRow_o0_4 24 gn) (f_X4_put_o1 168 24 7 (f_X4_addRow_o0_3 24 go gn) (f_X4_addRow_o0_4 24 gn) (f_X4_put_o1 168 24 7 (f_X4_addRow_o0_3 24 go gn) (f_X4_addRow_o0_4 24 gn) (f_X4_put_o1 168 24 7 (f_X4_addRow_o0_3 24 go gn) (f_X4_addRow_o0_4 24 gn) (f_X4_put_o1 168 24 7 (f_X4_addRow_o0_3 24 go gn) (f_X4_addRow_o0_4 24 gn) (f_X4_put_o1 168 24 7 (f_X4_addRow_o0_3 24 go gn) (f_X4_addRow_o0_4 24 gn) (f_X4_put_o1 168 24 7 (f_X4_addRow_o0_3 24 go gn) (f_X4_addRow_o0_4 24 gn) gf 0 um) 1 uwn.toInt64) 2 (f_X7_mean_r uln uld)) 3 (f_X7_mean_r uln ulp)) 4 (f_X7_mean_r uln ult)) 5 ua.toInt64) 6 tm.toInt64)) else ((f_X4_put_o1 168 24 7 (f_X4_addRow_o0_3 24 go gn) (f_X4_addRow_o0_4 24 gn) (f_X4_put_o1 168 24 7 (f_X4_addRow_o0_3 24 go gn) (f_X4_addRow_o0_4 24 gn) (f_X4_put_o1 168 24 7 (f_X4_addRow_o0_3 24 go gn) (f_X4_addRow_o0_4 24 gn) (f_X4_put_o1 168 24 7 (f_X4_addRow_o0_3 24 go gn) (f_X4_addRow_o0_4 24 gn) (f_X4_put_o1 168 24 7 (f_X4_addRow_o0_3 24 go gn) (f_X4_addRow_o0_4 24 gn) (f_X4_put_o1 168 24 7 (f_X4_addRow_o0_3 24 go gn) (f_X4_addRow_o0_4 24 gn) (f_X4_put_o1 168 24 7 (f_X4_addRow_o0_3 24 go gn) (f_X4_addRow_o0_4 24 gn) gf 0 um) 1 uwn.toInt64) 2 (f_X7_mean_r uwn uwd)) 3 (f_X7_mean_r uwn uwp)) 4 (f_X7_mean_r uwn uwt)) 5 ua.toInt64) 6 tm.toInt64))
set_option maxHeartbeats 4000000 in
set_option maxRecDepth 100000 in
theorem k_X6_recordHour (l : Launch) (G : sw_E) (h0 : Nat) (a1 : Nat) (a2 : Nat) (a3 : Nat) (a4 : Nat) (a5 : Nat) (a8 : Nat) (a9 : Nat) (a10 : Nat) (a13 : Nat) (a14 : Nat) (a15 : Nat) (a16 : Nat) (a11 : Nat) (a12 : Nat) (a17 : Nat) (tm : Int32) (ch : Int32) (rg : Int32) (hd : Int32) (df : Int32) (fl : Int64) (ms : Int64) (vo : Int64) (um : Int64) (ua : Int32) (uwn : Int32) (uwd : Int64) (uwp : Int64) (uwt : Int64) (uln : Int32) (uld : Int64) (ulp : Int64) (ult : Int64) (go : Int32) (gn : Int32) (gf : Nat → Int64)  : sw_M l G yX6_recordHour wsX6_recordHour ({ frames := 2, cells := 0, slots := 0, locals := 47 } : Room) [.ref h0] [(h0, .inr (6, [.int tm, .int ch, .ref a1, .ref a2, .ref a3, .ref a4, .int rg, .int hd, .int df, .ref a5, .ref a8, .long fl, .long ms, .long vo, .ref a9, .ref a10, .ref a13, .ref a14, .ref a15, .ref a16])), (a10, .inr (5, [.long um, .int ua, .ref a11, .ref a12])), (a11, .inr (7, [.int uwn, .long uwd, .long uwp, .long uwt])), (a12, .inr (7, [.int uln, .long uld, .long ulp, .long ult])), (a14, .inr (4, [.int 24, .int 7, .ref a17, .int go, .int gn])), (a17, .inl (G.2.1.2, 168, .inr (.inl gf)))] (sw_QV G (S := Int32 × Int32 × (Nat → Int64)) (fun (u : Int32 × Int32 × (Nat → Int64)) => u.1 = f_X6_recordHour_o4_3 go gn ∧ u.2.1 = f_X6_recordHour_o4_4 gn ∧ u.2.2 = f_X6_recordHour_o5 tm um ua uwn uwd uwp uwt uln uld ulp ult go gn gf) (fun u => [(h0, .inr (6, [.int tm, .int ch, .ref a1, .ref a2, .ref a3, .ref a4, .int rg, .int hd, .int df, .ref a5, .ref a8, .long fl, .long ms, .long vo, .ref a9, .ref a10, .ref a13, .ref a14, .ref a15, .ref a16])), (a10, .inr (5, [.long um, .int ua, .ref a11, .ref a12])), (a11, .inr (7, [.int uwn, .long uwd, .long uwp, .long uwt])), (a12, .inr (7, [.int uln, .long uld, .long ulp, .long ult])), (a14, .inr (4, [.int 24, .int 7, .ref a17, .int u.1, .int u.2.1])), (a17, .inl (G.2.1.2, 168, .inr (.inl u.2.2)))])) 0 0 := by
  refine sw_start (cc := cX6_recordHour) (maxL := 2) (ret := none) (lv := [(0, .ref h0)]) (own := RX6) (nm := "recordHour") (by decide +kernel) rfl rfl rfl rfl (Nat.le_of_ble_eq_true rfl) (fun C F T => ?_)
  have in5 : ∀ w ∈ u_ws RX5 TX5 4, w ∈ wsX6_recordHour := fun w h => List.mem_cons_of_mem _ (List.mem_append_left _ (List.mem_append_left _ (List.mem_append_right _ (h))))
  have in6 : ∀ w ∈ u_ws RX6 TX6 20, w ∈ wsX6_recordHour := fun w h => List.mem_cons_of_mem _ (List.mem_append_left _ (List.mem_append_left _ (List.mem_append_left _ (List.mem_append_right _ (h)))))
  have in7 : ∀ w ∈ u_ws RX7 TX7 4, w ∈ wsX6_recordHour := fun w h => List.mem_cons_of_mem _ (List.mem_append_left _ (List.mem_append_right _ (h)))
  refine sw_aload_n (pc := 0) F dX6_recordHour_0 rfl 0 rfl ?_
  refine sw_get (pc := 1) (Cn := RX6) (T := TX6) (N := 20) (ci := 6) (v := .ref a10) F in6 0 rfl rfl 15 (by decide) rfl (List.mem_of_getElem? (i := 1) rfl) rfl dX6_recordHour_1 ?_
  rcases Decidable.em (uwn ≤ 0) with c_1 | c_1
  · skip
    refine sw_callr (pc := 4) (wr := [(h0, .inr (6, [.int tm, .int ch, .ref a1, .ref a2, .ref a3, .ref a4, .int rg, .int hd, .int df, .ref a5, .ref a8, .long fl, .long ms, .long vo, .ref a9, .ref a10, .ref a13, .ref a14, .ref a15, .ref a16])), (a14, .inr (4, [.int 24, .int 7, .ref a17, .int go, .int gn])), (a17, .inl (G.2.1.2, 168, .inr (.inl gf)))]) (k' := 0) (n' := 0) F (sw_runV (R := ({ frames := 2, cells := 0, slots := 0, locals := 47 } : Room)) (q0 := 0) (na := 0) F T.2.1 T.2.2.1 (k_X5_sumsForMeans_a l G a10 a11 a12 um ua uwn uwd uwp uwt uln uld ulp ult (by assumption)) [1, 2, 3] rfl (by decide) gX6_recordHour_X5_sumsForMeans rfl rfl rfl (by decide +kernel) ⟨Nat.le_of_ble_eq_true rfl, Nat.le_of_ble_eq_true rfl⟩ rfl rfl rfl rfl rfl (Nat.le_of_ble_eq_true rfl) dX6_recordHour_4 (Nat.le_of_ble_eq_true rfl) (Nat.le_of_ble_eq_true rfl)) [1, 2, 3] [0, 4, 5] rfl rfl (by decide) (by decide) rfl rfl (fun r_2 u_3 h_4 => ?_)
    have e_5 : r_2 = a12 := h_4
    refine sw_eqt (v := .ref a12) (by rw [e_5]) ?_
    refine sw_eq (ws' := [(h0, .inr (6, [.int tm, .int ch, .ref a1, .ref a2, .ref a3, .ref a4, .int rg, .int hd, .int df, .ref a5, .ref a8, .long fl, .long ms, .long vo, .ref a9, .ref a10, .ref a13, .ref a14, .ref a15, .ref a16])), (a14, .inr (4, [.int 24, .int 7, .ref a17, .int go, .int gn])), (a17, .inl (G.2.1.2, 168, .inr (.inl gf))), (a10, .inr (5, [.long um, .int ua, .ref a11, .ref a12])), (a11, .inr (7, [.int uwn, .long uwd, .long uwp, .long uwt])), (a12, .inr (7, [.int uln, .long uld, .long ulp, .long ult]))]) (lv' := [(0, .ref h0)]) (st' := [.ref a12]) rfl rfl rfl ?_
    refine sw_astore_n (pc := 7) (lv' := [(1, .ref a12), (0, .ref h0)]) F T.1 dX6_recordHour_7 rfl (by decide) rfl ?_
    refine sw_aload_n (pc := 8) F dX6_recordHour_8 rfl 1 rfl ?_
    refine sw_get (pc := 9) (Cn := RX6) (T := TX6) (N := 20) (ci := 6) (v := .ref a14) F in6 0 rfl rfl 17 (by decide) rfl (List.mem_of_getElem? (i := 2) rfl) rfl dX6_recordHour_9 ?_
    refine sw_callv (pc := 12) (wr := [(h0, .inr (6, [.int tm, .int ch, .ref a1, .ref a2, .ref a3, .ref a4, .int rg, .int hd, .int df, .ref a5, .ref a8, .long fl, .long ms, .long vo, .ref a9, .ref a10, .ref a13, .ref a14, .ref a15, .ref a16])), (a10, .inr (5, [.long um, .int ua, .ref a11, .ref a12])), (a11, .inr (7, [.int uwn, .long uwd, .long uwp, .long uwt])), (a12, .inr (7, [.int uln, .long uld, .long ulp, .long ult]))]) (k' := 0) (n' := 0) F (sw_runV (R := ({ frames := 2, cells := 0, slots := 0, locals := 47 } : Room)) (q0 := 0) (na := 0) F T.2.1 T.2.2.1 (k_X4_addRow l G a14 a17 168 24 7 go gn gf) [1, 2] rfl (by decide) gX6_recordHour_X4_addRow rfl rfl rfl (by decide +kernel) ⟨Nat.le_of_ble_eq_true rfl, Nat.le_of_ble_eq_true rfl⟩ rfl rfl rfl rfl rfl (Nat.le_of_ble_eq_true rfl) dX6_recordHour_12 (Nat.le_of_ble_eq_true rfl) (Nat.le_of_ble_eq_true rfl)) [1, 2] [0, 3, 4, 5] rfl rfl (by decide) (by decide) rfl rfl (fun u_7 h_8 => ?_)
    obtain ⟨o_9, o_10⟩ := u_7
    obtain ⟨e_11, e_12⟩ : o_9 = f_X4_addRow_o0_3 24 go gn ∧ o_10 = f_X4_addRow_o0_4 24 gn := h_8
    refine sw_eq (ws' := [(h0, .inr (6, [.int tm, .int ch, .ref a1, .ref a2, .ref a3, .ref a4, .int rg, .int hd, .int df, .ref a5, .ref a8, .long fl, .long ms, .long vo, .ref a9, .ref a10, .ref a13, .ref a14, .ref a15, .ref a16])), (a10, .inr (5, [.long um, .int ua, .ref a11, .ref a12])), (a11, .inr (7, [.int uwn, .long uwd, .long uwp, .long uwt])), (a12, .inr (7, [.int uln, .long uld, .long ulp, .long ult])), (a14, .inr (4, [.int 24, .int 7, .ref a17, .int o_9, .int o_10])), (a17, .inl (G.2.1.2, 168, .inr (.inl gf)))]) (lv' := [(1, .ref a12), (0, .ref h0)]) (st' := []) rfl rfl rfl ?_
    refine sw_aload_n (pc := 15) F dX6_recordHour_15 rfl 1 rfl ?_
    refine sw_get (pc := 16) (Cn := RX6) (T := TX6) (N := 20) (ci := 6) (v := .ref a14) F in6 0 rfl rfl 17 (by decide) rfl (List.mem_of_getElem? (i := 2) rfl) rfl dX6_recordHour_16 ?_
    refine sw_iconst (pc := 19) (v := 0) F dX6_recordHour_19 rfl ?_
    refine sw_aload_n (pc := 20) F dX6_recordHour_20 rfl 1 rfl ?_
    refine sw_get (pc := 21) (Cn := RX6) (T := TX6) (N := 20) (ci := 6) (v := .ref a10) F in6 0 rfl rfl 15 (by decide) rfl (List.mem_of_getElem? (i := 1) rfl) rfl dX6_recordHour_21 ?_
    refine sw_get (pc := 24) (Cn := RX5) (T := TX5) (N := 4) (ci := 5) (v := .long um) F in5 1 rfl rfl 0 (by decide) rfl (List.mem_of_getElem? (i := 3) rfl) rfl dX6_recordHour_24 ?_
    refine sw_callv (pc := 27) (wr := [(h0, .inr (6, [.int tm, .int ch, .ref a1, .ref a2, .ref a3, .ref a4, .int rg, .int hd, .int df, .ref a5, .ref a8, .long fl, .long ms, .long vo, .ref a9, .ref a10, .ref a13, .ref a14, .ref a15, .ref a16])), (a10, .inr (5, [.long um, .int ua, .ref a11, .ref a12])), (a11, .inr (7, [.int uwn, .long uwd, .long uwp, .long uwt])), (a12, .inr (7, [.int uln, .long uld, .long ulp, .long ult]))]) (k' := 0) (n' := 0) F (sw_runV (R := ({ frames := 2, cells := 0, slots := 0, locals := 47 } : Room)) (q0 := 0) (na := 2) F T.2.1 T.2.2.1 (k_X4_put l G a14 a17 168 24 7 o_9 o_10 gf 0 um (by decide)) [4, 5] rfl (by decide) gX6_recordHour_X4_put rfl rfl rfl (by decide +kernel) ⟨Nat.le_of_ble_eq_true rfl, Nat.le_of_ble_eq_true rfl⟩ rfl rfl rfl rfl rfl (Nat.le_of_ble_eq_true rfl) dX6_recordHour_27 (Nat.le_of_ble_eq_true rfl) (Nat.le_of_ble_eq_true rfl)) [4, 5] [0, 1, 2, 3] rfl rfl (by decide) (by decide) rfl rfl (fun u_14 h_15 => ?_)
    obtain ⟨o_16, eu_14⟩ : ∃ z, z = u_14 := ⟨_, rfl⟩; subst eu_14
    have e_17 : o_16 = f_X4_put_o1 168 24 7 o_9 o_10 gf 0 um := h_15
    refine sw_eq (ws' := [(h0, .inr (6, [.int tm, .int ch, .ref a1, .ref a2, .ref a3, .ref a4, .int rg, .int hd, .int df, .ref a5, .ref a8, .long fl, .long ms, .long vo, .ref a9, .ref a10, .ref a13, .ref a14, .ref a15, .ref a16])), (a10, .inr (5, [.long um, .int ua, .ref a11, .ref a12])), (a11, .inr (7, [.int uwn, .long uwd, .long uwp, .long uwt])), (a12, .inr (7, [.int uln, .long uld, .long ulp, .long ult])), (a14, .inr (4, [.int 24, .int 7, .ref a17, .int o_9, .int o_10])), (a17, .inl (G.2.1.2, 168, .inr (.inl o_16)))]) (lv' := [(1, .ref a12), (0, .ref h0)]) (st' := []) rfl rfl rfl ?_
    refine sw_aload_n (pc := 30) F dX6_recordHour_30 rfl 1 rfl ?_
    refine sw_get (pc := 31) (Cn := RX6) (T := TX6) (N := 20) (ci := 6) (v := .ref a14) F in6 0 rfl rfl 17 (by decide) rfl (List.mem_of_getElem? (i := 2) rfl) rfl dX6_recordHour_31 ?_
    refine sw_iconst (pc := 34) (v := 1) F dX6_recordHour_34 rfl ?_
    refine sw_aload_n (pc := 35) F dX6_recordHour_35 rfl 1 rfl ?_
    refine sw_get (pc := 36) (Cn := RX6) (T := TX6) (N := 20) (ci := 6) (v := .ref a10) F in6 0 rfl rfl 15 (by decide) rfl (List.mem_of_getElem? (i := 1) rfl) rfl dX6_recordHour_36 ?_
    refine sw_get (pc := 39) (Cn := RX5) (T := TX5) (N := 4) (ci := 5) (v := .ref a11) F in5 1 rfl rfl 2 (by decide) rfl (List.mem_of_getElem? (i := 4) rfl) rfl dX6_recordHour_39 ?_
    refine sw_get (pc := 42) (Cn := RX7) (T := TX7) (N := 4) (ci := 7) (v := .int uwn) F in7 2 rfl rfl 0 (by decide) rfl (List.mem_of_getElem? (i := 5) rfl) rfl dX6_recordHour_42 ?_
    refine sw_i2l (pc := 45) F dX6_recordHour_45 rfl ?_
    refine sw_callv (pc := 46) (wr := [(h0, .inr (6, [.int tm, .int ch, .ref a1, .ref a2, .ref a3, .ref a4, .int rg, .int hd, .int df, .ref a5, .ref a8, .long fl, .long ms, .long vo, .ref a9, .ref a10, .ref a13, .ref a14, .ref a15, .ref a16])), (a10, .inr (5, [.long um, .int ua, .ref a11, .ref a12])), (a11, .inr (7, [.int uwn, .long uwd, .long uwp, .long uwt])), (a12, .inr (7, [.int uln, .long uld, .long ulp, .long ult]))]) (k' := 0) (n' := 0) F (sw_runV (R := ({ frames := 2, cells := 0, slots := 0, locals := 47 } : Room)) (q0 := 0) (na := 2) F T.2.1 T.2.2.1 (k_X4_put l G a14 a17 168 24 7 o_9 o_10 o_16 1 uwn.toInt64 (by decide)) [4, 5] rfl (by decide) gX6_recordHour_X4_put rfl rfl rfl (by decide +kernel) ⟨Nat.le_of_ble_eq_true rfl, Nat.le_of_ble_eq_true rfl⟩ rfl rfl rfl rfl rfl (Nat.le_of_ble_eq_true rfl) dX6_recordHour_46 (Nat.le_of_ble_eq_true rfl) (Nat.le_of_ble_eq_true rfl)) [4, 5] [0, 1, 2, 3] rfl rfl (by decide) (by decide) rfl rfl (fun u_19 h_20 => ?_)
    obtain ⟨o_21, eu_19⟩ : ∃ z, z = u_19 := ⟨_, rfl⟩; subst eu_19
    have e_22 : o_21 = f_X4_put_o1 168 24 7 o_9 o_10 o_16 1 uwn.toInt64 := h_20
    refine sw_eq (ws' := [(h0, .inr (6, [.int tm, .int ch, .ref a1, .ref a2, .ref a3, .ref a4, .int rg, .int hd, .int df, .ref a5, .ref a8, .long fl, .long ms, .long vo, .ref a9, .ref a10, .ref a13, .ref a14, .ref a15, .ref a16])), (a10, .inr (5, [.long um, .int ua, .ref a11, .ref a12])), (a11, .inr (7, [.int uwn, .long uwd, .long uwp, .long uwt])), (a12, .inr (7, [.int uln, .long uld, .long ulp, .long ult])), (a14, .inr (4, [.int 24, .int 7, .ref a17, .int o_9, .int o_10])), (a17, .inl (G.2.1.2, 168, .inr (.inl o_21)))]) (lv' := [(1, .ref a12), (0, .ref h0)]) (st' := []) rfl rfl rfl ?_
    refine sw_aload_n (pc := 49) F dX6_recordHour_49 rfl 1 rfl ?_
    refine sw_get (pc := 50) (Cn := RX6) (T := TX6) (N := 20) (ci := 6) (v := .ref a14) F in6 0 rfl rfl 17 (by decide) rfl (List.mem_of_getElem? (i := 2) rfl) rfl dX6_recordHour_50 ?_
    refine sw_iconst (pc := 53) (v := 2) F dX6_recordHour_53 rfl ?_
    refine sw_aload_n (pc := 54) F dX6_recordHour_54 rfl 0 rfl ?_
    refine sw_aload_n (pc := 55) F dX6_recordHour_55 rfl 0 rfl ?_
    refine sw_get (pc := 56) (Cn := RX7) (T := TX7) (N := 4) (ci := 7) (v := .long uld) F in7 3 rfl rfl 1 (by decide) rfl (List.mem_of_getElem? (i := 6) rfl) rfl dX6_recordHour_56 ?_
    refine sw_calll (pc := 59) (wr := [(h0, .inr (6, [.int tm, .int ch, .ref a1, .ref a2, .ref a3, .ref a4, .int rg, .int hd, .int df, .ref a5, .ref a8, .long fl, .long ms, .long vo, .ref a9, .ref a10, .ref a13, .ref a14, .ref a15, .ref a16])), (a10, .inr (5, [.long um, .int ua, .ref a11, .ref a12])), (a11, .inr (7, [.int uwn, .long uwd, .long uwp, .long uwt])), (a14, .inr (4, [.int 24, .int 7, .ref a17, .int o_9, .int o_10])), (a17, .inl (G.2.1.2, 168, .inr (.inl o_21)))]) (k' := 0) (n' := 0) F (sw_runV (R := ({ frames := 2, cells := 0, slots := 0, locals := 47 } : Room)) (q0 := 0) (na := 1) F T.2.1 T.2.2.1 (k_X7_mean l G a12 uln uld ulp ult uld) [3] rfl (by decide) gX6_recordHour_X7_mean rfl rfl rfl (by decide +kernel) ⟨Nat.le_of_ble_eq_true rfl, Nat.le_of_ble_eq_true rfl⟩ rfl rfl rfl rfl rfl (Nat.le_of_ble_eq_true rfl) dX6_recordHour_59 (Nat.le_of_ble_eq_true rfl) (Nat.le_of_ble_eq_true rfl)) [3] [0, 1, 2, 4, 5] rfl rfl (by decide) (by decide) rfl rfl (fun r_23 u_24 h_25 => ?_)
    have e_26 : r_23 = f_X7_mean_r uln uld := h_25
    refine sw_eq (ws' := [(h0, .inr (6, [.int tm, .int ch, .ref a1, .ref a2, .ref a3, .ref a4, .int rg, .int hd, .int df, .ref a5, .ref a8, .long fl, .long ms, .long vo, .ref a9, .ref a10, .ref a13, .ref a14, .ref a15, .ref a16])), (a10, .inr (5, [.long um, .int ua, .ref a11, .ref a12])), (a11, .inr (7, [.int uwn, .long uwd, .long uwp, .long uwt])), (a14, .inr (4, [.int 24, .int 7, .ref a17, .int o_9, .int o_10])), (a17, .inl (G.2.1.2, 168, .inr (.inl o_21))), (a12, .inr (7, [.int uln, .long uld, .long ulp, .long ult]))]) (lv' := [(1, .ref a12), (0, .ref h0)]) (st' := [.long r_23, .int 2, .ref a14]) rfl rfl rfl ?_
    refine sw_callv (pc := 62) (wr := [(h0, .inr (6, [.int tm, .int ch, .ref a1, .ref a2, .ref a3, .ref a4, .int rg, .int hd, .int df, .ref a5, .ref a8, .long fl, .long ms, .long vo, .ref a9, .ref a10, .ref a13, .ref a14, .ref a15, .ref a16])), (a10, .inr (5, [.long um, .int ua, .ref a11, .ref a12])), (a11, .inr (7, [.int uwn, .long uwd, .long uwp, .long uwt])), (a12, .inr (7, [.int uln, .long uld, .long ulp, .long ult]))]) (k' := 0) (n' := 0) F (sw_runV (R := ({ frames := 2, cells := 0, slots := 0, locals := 47 } : Room)) (q0 := 0) (na := 2) F T.2.1 T.2.2.1 (k_X4_put l G a14 a17 168 24 7 o_9 o_10 o_21 2 r_23 (by decide)) [3, 4] rfl (by decide) gX6_recordHour_X4_put rfl rfl rfl (by decide +kernel) ⟨Nat.le_of_ble_eq_true rfl, Nat.le_of_ble_eq_true rfl⟩ rfl rfl rfl rfl rfl (Nat.le_of_ble_eq_true rfl) dX6_recordHour_62 (Nat.le_of_ble_eq_true rfl) (Nat.le_of_ble_eq_true rfl)) [3, 4] [0, 1, 2, 5] rfl rfl (by decide) (by decide) rfl rfl (fun u_28 h_29 => ?_)
    obtain ⟨o_30, eu_28⟩ : ∃ z, z = u_28 := ⟨_, rfl⟩; subst eu_28
    have e_31 : o_30 = f_X4_put_o1 168 24 7 o_9 o_10 o_21 2 r_23 := h_29
    refine sw_eq (ws' := [(h0, .inr (6, [.int tm, .int ch, .ref a1, .ref a2, .ref a3, .ref a4, .int rg, .int hd, .int df, .ref a5, .ref a8, .long fl, .long ms, .long vo, .ref a9, .ref a10, .ref a13, .ref a14, .ref a15, .ref a16])), (a10, .inr (5, [.long um, .int ua, .ref a11, .ref a12])), (a11, .inr (7, [.int uwn, .long uwd, .long uwp, .long uwt])), (a12, .inr (7, [.int uln, .long uld, .long ulp, .long ult])), (a14, .inr (4, [.int 24, .int 7, .ref a17, .int o_9, .int o_10])), (a17, .inl (G.2.1.2, 168, .inr (.inl o_30)))]) (lv' := [(1, .ref a12), (0, .ref h0)]) (st' := []) rfl rfl rfl ?_
    refine sw_aload_n (pc := 65) F dX6_recordHour_65 rfl 1 rfl ?_
    refine sw_get (pc := 66) (Cn := RX6) (T := TX6) (N := 20) (ci := 6) (v := .ref a14) F in6 0 rfl rfl 17 (by decide) rfl (List.mem_of_getElem? (i := 2) rfl) rfl dX6_recordHour_66 ?_
    refine sw_iconst (pc := 69) (v := 3) F dX6_recordHour_69 rfl ?_
    refine sw_aload_n (pc := 70) F dX6_recordHour_70 rfl 0 rfl ?_
    refine sw_aload_n (pc := 71) F dX6_recordHour_71 rfl 0 rfl ?_
    refine sw_get (pc := 72) (Cn := RX7) (T := TX7) (N := 4) (ci := 7) (v := .long ulp) F in7 3 rfl rfl 2 (by decide) rfl (List.mem_of_getElem? (i := 7) rfl) rfl dX6_recordHour_72 ?_
    refine sw_calll (pc := 75) (wr := [(h0, .inr (6, [.int tm, .int ch, .ref a1, .ref a2, .ref a3, .ref a4, .int rg, .int hd, .int df, .ref a5, .ref a8, .long fl, .long ms, .long vo, .ref a9, .ref a10, .ref a13, .ref a14, .ref a15, .ref a16])), (a10, .inr (5, [.long um, .int ua, .ref a11, .ref a12])), (a11, .inr (7, [.int uwn, .long uwd, .long uwp, .long uwt])), (a14, .inr (4, [.int 24, .int 7, .ref a17, .int o_9, .int o_10])), (a17, .inl (G.2.1.2, 168, .inr (.inl o_30)))]) (k' := 0) (n' := 0) F (sw_runV (R := ({ frames := 2, cells := 0, slots := 0, locals := 47 } : Room)) (q0 := 0) (na := 1) F T.2.1 T.2.2.1 (k_X7_mean l G a12 uln uld ulp ult ulp) [3] rfl (by decide) gX6_recordHour_X7_mean rfl rfl rfl (by decide +kernel) ⟨Nat.le_of_ble_eq_true rfl, Nat.le_of_ble_eq_true rfl⟩ rfl rfl rfl rfl rfl (Nat.le_of_ble_eq_true rfl) dX6_recordHour_75 (Nat.le_of_ble_eq_true rfl) (Nat.le_of_ble_eq_true rfl)) [3] [0, 1, 2, 4, 5] rfl rfl (by decide) (by decide) rfl rfl (fun r_32 u_33 h_34 => ?_)
    have e_35 : r_32 = f_X7_mean_r uln ulp := h_34
    refine sw_eq (ws' := [(h0, .inr (6, [.int tm, .int ch, .ref a1, .ref a2, .ref a3, .ref a4, .int rg, .int hd, .int df, .ref a5, .ref a8, .long fl, .long ms, .long vo, .ref a9, .ref a10, .ref a13, .ref a14, .ref a15, .ref a16])), (a10, .inr (5, [.long um, .int ua, .ref a11, .ref a12])), (a11, .inr (7, [.int uwn, .long uwd, .long uwp, .long uwt])), (a14, .inr (4, [.int 24, .int 7, .ref a17, .int o_9, .int o_10])), (a17, .inl (G.2.1.2, 168, .inr (.inl o_30))), (a12, .inr (7, [.int uln, .long uld, .long ulp, .long ult]))]) (lv' := [(1, .ref a12), (0, .ref h0)]) (st' := [.long r_32, .int 3, .ref a14]) rfl rfl rfl ?_
    refine sw_callv (pc := 78) (wr := [(h0, .inr (6, [.int tm, .int ch, .ref a1, .ref a2, .ref a3, .ref a4, .int rg, .int hd, .int df, .ref a5, .ref a8, .long fl, .long ms, .long vo, .ref a9, .ref a10, .ref a13, .ref a14, .ref a15, .ref a16])), (a10, .inr (5, [.long um, .int ua, .ref a11, .ref a12])), (a11, .inr (7, [.int uwn, .long uwd, .long uwp, .long uwt])), (a12, .inr (7, [.int uln, .long uld, .long ulp, .long ult]))]) (k' := 0) (n' := 0) F (sw_runV (R := ({ frames := 2, cells := 0, slots := 0, locals := 47 } : Room)) (q0 := 0) (na := 2) F T.2.1 T.2.2.1 (k_X4_put l G a14 a17 168 24 7 o_9 o_10 o_30 3 r_32 (by decide)) [3, 4] rfl (by decide) gX6_recordHour_X4_put rfl rfl rfl (by decide +kernel) ⟨Nat.le_of_ble_eq_true rfl, Nat.le_of_ble_eq_true rfl⟩ rfl rfl rfl rfl rfl (Nat.le_of_ble_eq_true rfl) dX6_recordHour_78 (Nat.le_of_ble_eq_true rfl) (Nat.le_of_ble_eq_true rfl)) [3, 4] [0, 1, 2, 5] rfl rfl (by decide) (by decide) rfl rfl (fun u_37 h_38 => ?_)
    obtain ⟨o_39, eu_37⟩ : ∃ z, z = u_37 := ⟨_, rfl⟩; subst eu_37
    have e_40 : o_39 = f_X4_put_o1 168 24 7 o_9 o_10 o_30 3 r_32 := h_38
    refine sw_eq (ws' := [(h0, .inr (6, [.int tm, .int ch, .ref a1, .ref a2, .ref a3, .ref a4, .int rg, .int hd, .int df, .ref a5, .ref a8, .long fl, .long ms, .long vo, .ref a9, .ref a10, .ref a13, .ref a14, .ref a15, .ref a16])), (a10, .inr (5, [.long um, .int ua, .ref a11, .ref a12])), (a11, .inr (7, [.int uwn, .long uwd, .long uwp, .long uwt])), (a12, .inr (7, [.int uln, .long uld, .long ulp, .long ult])), (a14, .inr (4, [.int 24, .int 7, .ref a17, .int o_9, .int o_10])), (a17, .inl (G.2.1.2, 168, .inr (.inl o_39)))]) (lv' := [(1, .ref a12), (0, .ref h0)]) (st' := []) rfl rfl rfl ?_
    refine sw_aload_n (pc := 81) F dX6_recordHour_81 rfl 1 rfl ?_
    refine sw_get (pc := 82) (Cn := RX6) (T := TX6) (N := 20) (ci := 6) (v := .ref a14) F in6 0 rfl rfl 17 (by decide) rfl (List.mem_of_getElem? (i := 2) rfl) rfl dX6_recordHour_82 ?_
    refine sw_iconst (pc := 85) (v := 4) F dX6_recordHour_85 rfl ?_
    refine sw_aload_n (pc := 86) F dX6_recordHour_86 rfl 0 rfl ?_
    refine sw_aload_n (pc := 87) F dX6_recordHour_87 rfl 0 rfl ?_
    refine sw_get (pc := 88) (Cn := RX7) (T := TX7) (N := 4) (ci := 7) (v := .long ult) F in7 3 rfl rfl 3 (by decide) rfl (List.mem_of_getElem? (i := 8) rfl) rfl dX6_recordHour_88 ?_
    refine sw_calll (pc := 91) (wr := [(h0, .inr (6, [.int tm, .int ch, .ref a1, .ref a2, .ref a3, .ref a4, .int rg, .int hd, .int df, .ref a5, .ref a8, .long fl, .long ms, .long vo, .ref a9, .ref a10, .ref a13, .ref a14, .ref a15, .ref a16])), (a10, .inr (5, [.long um, .int ua, .ref a11, .ref a12])), (a11, .inr (7, [.int uwn, .long uwd, .long uwp, .long uwt])), (a14, .inr (4, [.int 24, .int 7, .ref a17, .int o_9, .int o_10])), (a17, .inl (G.2.1.2, 168, .inr (.inl o_39)))]) (k' := 0) (n' := 0) F (sw_runV (R := ({ frames := 2, cells := 0, slots := 0, locals := 47 } : Room)) (q0 := 0) (na := 1) F T.2.1 T.2.2.1 (k_X7_mean l G a12 uln uld ulp ult ult) [3] rfl (by decide) gX6_recordHour_X7_mean rfl rfl rfl (by decide +kernel) ⟨Nat.le_of_ble_eq_true rfl, Nat.le_of_ble_eq_true rfl⟩ rfl rfl rfl rfl rfl (Nat.le_of_ble_eq_true rfl) dX6_recordHour_91 (Nat.le_of_ble_eq_true rfl) (Nat.le_of_ble_eq_true rfl)) [3] [0, 1, 2, 4, 5] rfl rfl (by decide) (by decide) rfl rfl (fun r_41 u_42 h_43 => ?_)
    have e_44 : r_41 = f_X7_mean_r uln ult := h_43
    refine sw_eq (ws' := [(h0, .inr (6, [.int tm, .int ch, .ref a1, .ref a2, .ref a3, .ref a4, .int rg, .int hd, .int df, .ref a5, .ref a8, .long fl, .long ms, .long vo, .ref a9, .ref a10, .ref a13, .ref a14, .ref a15, .ref a16])), (a10, .inr (5, [.long um, .int ua, .ref a11, .ref a12])), (a11, .inr (7, [.int uwn, .long uwd, .long uwp, .long uwt])), (a14, .inr (4, [.int 24, .int 7, .ref a17, .int o_9, .int o_10])), (a17, .inl (G.2.1.2, 168, .inr (.inl o_39))), (a12, .inr (7, [.int uln, .long uld, .long ulp, .long ult]))]) (lv' := [(1, .ref a12), (0, .ref h0)]) (st' := [.long r_41, .int 4, .ref a14]) rfl rfl rfl ?_
    refine sw_callv (pc := 94) (wr := [(h0, .inr (6, [.int tm, .int ch, .ref a1, .ref a2, .ref a3, .ref a4, .int rg, .int hd, .int df, .ref a5, .ref a8, .long fl, .long ms, .long vo, .ref a9, .ref a10, .ref a13, .ref a14, .ref a15, .ref a16])), (a10, .inr (5, [.long um, .int ua, .ref a11, .ref a12])), (a11, .inr (7, [.int uwn, .long uwd, .long uwp, .long uwt])), (a12, .inr (7, [.int uln, .long uld, .long ulp, .long ult]))]) (k' := 0) (n' := 0) F (sw_runV (R := ({ frames := 2, cells := 0, slots := 0, locals := 47 } : Room)) (q0 := 0) (na := 2) F T.2.1 T.2.2.1 (k_X4_put l G a14 a17 168 24 7 o_9 o_10 o_39 4 r_41 (by decide)) [3, 4] rfl (by decide) gX6_recordHour_X4_put rfl rfl rfl (by decide +kernel) ⟨Nat.le_of_ble_eq_true rfl, Nat.le_of_ble_eq_true rfl⟩ rfl rfl rfl rfl rfl (Nat.le_of_ble_eq_true rfl) dX6_recordHour_94 (Nat.le_of_ble_eq_true rfl) (Nat.le_of_ble_eq_true rfl)) [3, 4] [0, 1, 2, 5] rfl rfl (by decide) (by decide) rfl rfl (fun u_46 h_47 => ?_)
    obtain ⟨o_48, eu_46⟩ : ∃ z, z = u_46 := ⟨_, rfl⟩; subst eu_46
    have e_49 : o_48 = f_X4_put_o1 168 24 7 o_9 o_10 o_39 4 r_41 := h_47
    refine sw_eq (ws' := [(h0, .inr (6, [.int tm, .int ch, .ref a1, .ref a2, .ref a3, .ref a4, .int rg, .int hd, .int df, .ref a5, .ref a8, .long fl, .long ms, .long vo, .ref a9, .ref a10, .ref a13, .ref a14, .ref a15, .ref a16])), (a10, .inr (5, [.long um, .int ua, .ref a11, .ref a12])), (a11, .inr (7, [.int uwn, .long uwd, .long uwp, .long uwt])), (a12, .inr (7, [.int uln, .long uld, .long ulp, .long ult])), (a14, .inr (4, [.int 24, .int 7, .ref a17, .int o_9, .int o_10])), (a17, .inl (G.2.1.2, 168, .inr (.inl o_48)))]) (lv' := [(1, .ref a12), (0, .ref h0)]) (st' := []) rfl rfl rfl ?_
    refine sw_aload_n (pc := 97) F dX6_recordHour_97 rfl 1 rfl ?_
    refine sw_get (pc := 98) (Cn := RX6) (T := TX6) (N := 20) (ci := 6) (v := .ref a14) F in6 0 rfl rfl 17 (by decide) rfl (List.mem_of_getElem? (i := 2) rfl) rfl dX6_recordHour_98 ?_
    refine sw_iconst (pc := 101) (v := 5) F dX6_recordHour_101 rfl ?_
    refine sw_aload_n (pc := 102) F dX6_recordHour_102 rfl 1 rfl ?_
    refine sw_get (pc := 103) (Cn := RX6) (T := TX6) (N := 20) (ci := 6) (v := .ref a10) F in6 0 rfl rfl 15 (by decide) rfl (List.mem_of_getElem? (i := 1) rfl) rfl dX6_recordHour_103 ?_
    refine sw_get (pc := 106) (Cn := RX5) (T := TX5) (N := 4) (ci := 5) (v := .int ua) F in5 1 rfl rfl 1 (by decide) rfl (List.mem_of_getElem? (i := 9) rfl) rfl dX6_recordHour_106 ?_
    refine sw_i2l (pc := 109) F dX6_recordHour_109 rfl ?_
    refine sw_callv (pc := 110) (wr := [(h0, .inr (6, [.int tm, .int ch, .ref a1, .ref a2, .ref a3, .ref a4, .int rg, .int hd, .int df, .ref a5, .ref a8, .long fl, .long ms, .long vo, .ref a9, .ref a10, .ref a13, .ref a14, .ref a15, .ref a16])), (a10, .inr (5, [.long um, .int ua, .ref a11, .ref a12])), (a11, .inr (7, [.int uwn, .long uwd, .long uwp, .long uwt])), (a12, .inr (7, [.int uln, .long uld, .long ulp, .long ult]))]) (k' := 0) (n' := 0) F (sw_runV (R := ({ frames := 2, cells := 0, slots := 0, locals := 47 } : Room)) (q0 := 0) (na := 2) F T.2.1 T.2.2.1 (k_X4_put l G a14 a17 168 24 7 o_9 o_10 o_48 5 ua.toInt64 (by decide)) [4, 5] rfl (by decide) gX6_recordHour_X4_put rfl rfl rfl (by decide +kernel) ⟨Nat.le_of_ble_eq_true rfl, Nat.le_of_ble_eq_true rfl⟩ rfl rfl rfl rfl rfl (Nat.le_of_ble_eq_true rfl) dX6_recordHour_110 (Nat.le_of_ble_eq_true rfl) (Nat.le_of_ble_eq_true rfl)) [4, 5] [0, 1, 2, 3] rfl rfl (by decide) (by decide) rfl rfl (fun u_51 h_52 => ?_)
    obtain ⟨o_53, eu_51⟩ : ∃ z, z = u_51 := ⟨_, rfl⟩; subst eu_51
    have e_54 : o_53 = f_X4_put_o1 168 24 7 o_9 o_10 o_48 5 ua.toInt64 := h_52
    refine sw_eq (ws' := [(h0, .inr (6, [.int tm, .int ch, .ref a1, .ref a2, .ref a3, .ref a4, .int rg, .int hd, .int df, .ref a5, .ref a8, .long fl, .long ms, .long vo, .ref a9, .ref a10, .ref a13, .ref a14, .ref a15, .ref a16])), (a10, .inr (5, [.long um, .int ua, .ref a11, .ref a12])), (a11, .inr (7, [.int uwn, .long uwd, .long uwp, .long uwt])), (a12, .inr (7, [.int uln, .long uld, .long ulp, .long ult])), (a14, .inr (4, [.int 24, .int 7, .ref a17, .int o_9, .int o_10])), (a17, .inl (G.2.1.2, 168, .inr (.inl o_53)))]) (lv' := [(1, .ref a12), (0, .ref h0)]) (st' := []) rfl rfl rfl ?_
    refine sw_aload_n (pc := 113) F dX6_recordHour_113 rfl 1 rfl ?_
    refine sw_get (pc := 114) (Cn := RX6) (T := TX6) (N := 20) (ci := 6) (v := .ref a14) F in6 0 rfl rfl 17 (by decide) rfl (List.mem_of_getElem? (i := 2) rfl) rfl dX6_recordHour_114 ?_
    refine sw_bipush (pc := 117) (v := 6) F dX6_recordHour_117 rfl ?_
    refine sw_aload_n (pc := 119) F dX6_recordHour_119 rfl 1 rfl ?_
    refine sw_get (pc := 120) (Cn := RX6) (T := TX6) (N := 20) (ci := 6) (v := .int tm) F in6 0 rfl rfl 0 (by decide) rfl (List.mem_of_getElem? (i := 10) rfl) rfl dX6_recordHour_120 ?_
    refine sw_i2l (pc := 123) F dX6_recordHour_123 rfl ?_
    refine sw_callv (pc := 124) (wr := [(h0, .inr (6, [.int tm, .int ch, .ref a1, .ref a2, .ref a3, .ref a4, .int rg, .int hd, .int df, .ref a5, .ref a8, .long fl, .long ms, .long vo, .ref a9, .ref a10, .ref a13, .ref a14, .ref a15, .ref a16])), (a10, .inr (5, [.long um, .int ua, .ref a11, .ref a12])), (a11, .inr (7, [.int uwn, .long uwd, .long uwp, .long uwt])), (a12, .inr (7, [.int uln, .long uld, .long ulp, .long ult]))]) (k' := 0) (n' := 0) F (sw_runV (R := ({ frames := 2, cells := 0, slots := 0, locals := 47 } : Room)) (q0 := 0) (na := 2) F T.2.1 T.2.2.1 (k_X4_put l G a14 a17 168 24 7 o_9 o_10 o_53 6 tm.toInt64 (by decide)) [4, 5] rfl (by decide) gX6_recordHour_X4_put rfl rfl rfl (by decide +kernel) ⟨Nat.le_of_ble_eq_true rfl, Nat.le_of_ble_eq_true rfl⟩ rfl rfl rfl rfl rfl (Nat.le_of_ble_eq_true rfl) dX6_recordHour_124 (Nat.le_of_ble_eq_true rfl) (Nat.le_of_ble_eq_true rfl)) [4, 5] [0, 1, 2, 3] rfl rfl (by decide) (by decide) rfl rfl (fun u_56 h_57 => ?_)
    obtain ⟨o_58, eu_56⟩ : ∃ z, z = u_56 := ⟨_, rfl⟩; subst eu_56
    have e_59 : o_58 = f_X4_put_o1 168 24 7 o_9 o_10 o_53 6 tm.toInt64 := h_57
    refine sw_eq (ws' := [(h0, .inr (6, [.int tm, .int ch, .ref a1, .ref a2, .ref a3, .ref a4, .int rg, .int hd, .int df, .ref a5, .ref a8, .long fl, .long ms, .long vo, .ref a9, .ref a10, .ref a13, .ref a14, .ref a15, .ref a16])), (a10, .inr (5, [.long um, .int ua, .ref a11, .ref a12])), (a11, .inr (7, [.int uwn, .long uwd, .long uwp, .long uwt])), (a12, .inr (7, [.int uln, .long uld, .long ulp, .long ult])), (a14, .inr (4, [.int 24, .int 7, .ref a17, .int o_9, .int o_10])), (a17, .inl (G.2.1.2, 168, .inr (.inl o_58)))]) (lv' := [(1, .ref a12), (0, .ref h0)]) (st' := []) rfl rfl rfl ?_
    subst e_59
    subst e_54
    subst e_49
    subst e_44
    subst e_40
    subst e_35
    subst e_31
    subst e_26
    subst e_22
    subst e_17
    subst e_12
    subst e_11
    exact sw_vret (pc := 127) F T ((f_X4_addRow_o0_3 24 go gn), (f_X4_addRow_o0_4 24 gn), (f_X4_put_o1 168 24 7 (f_X4_addRow_o0_3 24 go gn) (f_X4_addRow_o0_4 24 gn) (f_X4_put_o1 168 24 7 (f_X4_addRow_o0_3 24 go gn) (f_X4_addRow_o0_4 24 gn) (f_X4_put_o1 168 24 7 (f_X4_addRow_o0_3 24 go gn) (f_X4_addRow_o0_4 24 gn) (f_X4_put_o1 168 24 7 (f_X4_addRow_o0_3 24 go gn) (f_X4_addRow_o0_4 24 gn) (f_X4_put_o1 168 24 7 (f_X4_addRow_o0_3 24 go gn) (f_X4_addRow_o0_4 24 gn) (f_X4_put_o1 168 24 7 (f_X4_addRow_o0_3 24 go gn) (f_X4_addRow_o0_4 24 gn) (f_X4_put_o1 168 24 7 (f_X4_addRow_o0_3 24 go gn) (f_X4_addRow_o0_4 24 gn) gf 0 um) 1 uwn.toInt64) 2 (f_X7_mean_r uln uld)) 3 (f_X7_mean_r uln ulp)) 4 (f_X7_mean_r uln ult)) 5 ua.toInt64) 6 tm.toInt64)) ⟨rfl, rfl, (by unfold f_X6_recordHour_o5; rw [if_pos c_1])⟩ rfl dX6_recordHour_127
  · skip
    refine sw_callr (pc := 4) (wr := [(h0, .inr (6, [.int tm, .int ch, .ref a1, .ref a2, .ref a3, .ref a4, .int rg, .int hd, .int df, .ref a5, .ref a8, .long fl, .long ms, .long vo, .ref a9, .ref a10, .ref a13, .ref a14, .ref a15, .ref a16])), (a14, .inr (4, [.int 24, .int 7, .ref a17, .int go, .int gn])), (a17, .inl (G.2.1.2, 168, .inr (.inl gf)))]) (k' := 0) (n' := 0) F (sw_runV (R := ({ frames := 2, cells := 0, slots := 0, locals := 47 } : Room)) (q0 := 0) (na := 0) F T.2.1 T.2.2.1 (k_X5_sumsForMeans_w l G a10 a11 a12 um ua uwn uwd uwp uwt uln uld ulp ult (by assumption)) [1, 2, 3] rfl (by decide) gX6_recordHour_X5_sumsForMeans rfl rfl rfl (by decide +kernel) ⟨Nat.le_of_ble_eq_true rfl, Nat.le_of_ble_eq_true rfl⟩ rfl rfl rfl rfl rfl (Nat.le_of_ble_eq_true rfl) dX6_recordHour_4 (Nat.le_of_ble_eq_true rfl) (Nat.le_of_ble_eq_true rfl)) [1, 2, 3] [0, 4, 5] rfl rfl (by decide) (by decide) rfl rfl (fun r_60 u_61 h_62 => ?_)
    have e_63 : r_60 = a11 := h_62
    refine sw_eqt (v := .ref a11) (by rw [e_63]) ?_
    refine sw_eq (ws' := [(h0, .inr (6, [.int tm, .int ch, .ref a1, .ref a2, .ref a3, .ref a4, .int rg, .int hd, .int df, .ref a5, .ref a8, .long fl, .long ms, .long vo, .ref a9, .ref a10, .ref a13, .ref a14, .ref a15, .ref a16])), (a14, .inr (4, [.int 24, .int 7, .ref a17, .int go, .int gn])), (a17, .inl (G.2.1.2, 168, .inr (.inl gf))), (a10, .inr (5, [.long um, .int ua, .ref a11, .ref a12])), (a11, .inr (7, [.int uwn, .long uwd, .long uwp, .long uwt])), (a12, .inr (7, [.int uln, .long uld, .long ulp, .long ult]))]) (lv' := [(0, .ref h0)]) (st' := [.ref a11]) rfl rfl rfl ?_
    refine sw_astore_n (pc := 7) (lv' := [(1, .ref a11), (0, .ref h0)]) F T.1 dX6_recordHour_7 rfl (by decide) rfl ?_
    refine sw_aload_n (pc := 8) F dX6_recordHour_8 rfl 1 rfl ?_
    refine sw_get (pc := 9) (Cn := RX6) (T := TX6) (N := 20) (ci := 6) (v := .ref a14) F in6 0 rfl rfl 17 (by decide) rfl (List.mem_of_getElem? (i := 2) rfl) rfl dX6_recordHour_9 ?_
    refine sw_callv (pc := 12) (wr := [(h0, .inr (6, [.int tm, .int ch, .ref a1, .ref a2, .ref a3, .ref a4, .int rg, .int hd, .int df, .ref a5, .ref a8, .long fl, .long ms, .long vo, .ref a9, .ref a10, .ref a13, .ref a14, .ref a15, .ref a16])), (a10, .inr (5, [.long um, .int ua, .ref a11, .ref a12])), (a11, .inr (7, [.int uwn, .long uwd, .long uwp, .long uwt])), (a12, .inr (7, [.int uln, .long uld, .long ulp, .long ult]))]) (k' := 0) (n' := 0) F (sw_runV (R := ({ frames := 2, cells := 0, slots := 0, locals := 47 } : Room)) (q0 := 0) (na := 0) F T.2.1 T.2.2.1 (k_X4_addRow l G a14 a17 168 24 7 go gn gf) [1, 2] rfl (by decide) gX6_recordHour_X4_addRow rfl rfl rfl (by decide +kernel) ⟨Nat.le_of_ble_eq_true rfl, Nat.le_of_ble_eq_true rfl⟩ rfl rfl rfl rfl rfl (Nat.le_of_ble_eq_true rfl) dX6_recordHour_12 (Nat.le_of_ble_eq_true rfl) (Nat.le_of_ble_eq_true rfl)) [1, 2] [0, 3, 4, 5] rfl rfl (by decide) (by decide) rfl rfl (fun u_65 h_66 => ?_)
    obtain ⟨o_67, o_68⟩ := u_65
    obtain ⟨e_69, e_70⟩ : o_67 = f_X4_addRow_o0_3 24 go gn ∧ o_68 = f_X4_addRow_o0_4 24 gn := h_66
    refine sw_eq (ws' := [(h0, .inr (6, [.int tm, .int ch, .ref a1, .ref a2, .ref a3, .ref a4, .int rg, .int hd, .int df, .ref a5, .ref a8, .long fl, .long ms, .long vo, .ref a9, .ref a10, .ref a13, .ref a14, .ref a15, .ref a16])), (a10, .inr (5, [.long um, .int ua, .ref a11, .ref a12])), (a11, .inr (7, [.int uwn, .long uwd, .long uwp, .long uwt])), (a12, .inr (7, [.int uln, .long uld, .long ulp, .long ult])), (a14, .inr (4, [.int 24, .int 7, .ref a17, .int o_67, .int o_68])), (a17, .inl (G.2.1.2, 168, .inr (.inl gf)))]) (lv' := [(1, .ref a11), (0, .ref h0)]) (st' := []) rfl rfl rfl ?_
    refine sw_aload_n (pc := 15) F dX6_recordHour_15 rfl 1 rfl ?_
    refine sw_get (pc := 16) (Cn := RX6) (T := TX6) (N := 20) (ci := 6) (v := .ref a14) F in6 0 rfl rfl 17 (by decide) rfl (List.mem_of_getElem? (i := 2) rfl) rfl dX6_recordHour_16 ?_
    refine sw_iconst (pc := 19) (v := 0) F dX6_recordHour_19 rfl ?_
    refine sw_aload_n (pc := 20) F dX6_recordHour_20 rfl 1 rfl ?_
    refine sw_get (pc := 21) (Cn := RX6) (T := TX6) (N := 20) (ci := 6) (v := .ref a10) F in6 0 rfl rfl 15 (by decide) rfl (List.mem_of_getElem? (i := 1) rfl) rfl dX6_recordHour_21 ?_
    refine sw_get (pc := 24) (Cn := RX5) (T := TX5) (N := 4) (ci := 5) (v := .long um) F in5 1 rfl rfl 0 (by decide) rfl (List.mem_of_getElem? (i := 3) rfl) rfl dX6_recordHour_24 ?_
    refine sw_callv (pc := 27) (wr := [(h0, .inr (6, [.int tm, .int ch, .ref a1, .ref a2, .ref a3, .ref a4, .int rg, .int hd, .int df, .ref a5, .ref a8, .long fl, .long ms, .long vo, .ref a9, .ref a10, .ref a13, .ref a14, .ref a15, .ref a16])), (a10, .inr (5, [.long um, .int ua, .ref a11, .ref a12])), (a11, .inr (7, [.int uwn, .long uwd, .long uwp, .long uwt])), (a12, .inr (7, [.int uln, .long uld, .long ulp, .long ult]))]) (k' := 0) (n' := 0) F (sw_runV (R := ({ frames := 2, cells := 0, slots := 0, locals := 47 } : Room)) (q0 := 0) (na := 2) F T.2.1 T.2.2.1 (k_X4_put l G a14 a17 168 24 7 o_67 o_68 gf 0 um (by decide)) [4, 5] rfl (by decide) gX6_recordHour_X4_put rfl rfl rfl (by decide +kernel) ⟨Nat.le_of_ble_eq_true rfl, Nat.le_of_ble_eq_true rfl⟩ rfl rfl rfl rfl rfl (Nat.le_of_ble_eq_true rfl) dX6_recordHour_27 (Nat.le_of_ble_eq_true rfl) (Nat.le_of_ble_eq_true rfl)) [4, 5] [0, 1, 2, 3] rfl rfl (by decide) (by decide) rfl rfl (fun u_72 h_73 => ?_)
    obtain ⟨o_74, eu_72⟩ : ∃ z, z = u_72 := ⟨_, rfl⟩; subst eu_72
    have e_75 : o_74 = f_X4_put_o1 168 24 7 o_67 o_68 gf 0 um := h_73
    refine sw_eq (ws' := [(h0, .inr (6, [.int tm, .int ch, .ref a1, .ref a2, .ref a3, .ref a4, .int rg, .int hd, .int df, .ref a5, .ref a8, .long fl, .long ms, .long vo, .ref a9, .ref a10, .ref a13, .ref a14, .ref a15, .ref a16])), (a10, .inr (5, [.long um, .int ua, .ref a11, .ref a12])), (a11, .inr (7, [.int uwn, .long uwd, .long uwp, .long uwt])), (a12, .inr (7, [.int uln, .long uld, .long ulp, .long ult])), (a14, .inr (4, [.int 24, .int 7, .ref a17, .int o_67, .int o_68])), (a17, .inl (G.2.1.2, 168, .inr (.inl o_74)))]) (lv' := [(1, .ref a11), (0, .ref h0)]) (st' := []) rfl rfl rfl ?_
    refine sw_aload_n (pc := 30) F dX6_recordHour_30 rfl 1 rfl ?_
    refine sw_get (pc := 31) (Cn := RX6) (T := TX6) (N := 20) (ci := 6) (v := .ref a14) F in6 0 rfl rfl 17 (by decide) rfl (List.mem_of_getElem? (i := 2) rfl) rfl dX6_recordHour_31 ?_
    refine sw_iconst (pc := 34) (v := 1) F dX6_recordHour_34 rfl ?_
    refine sw_aload_n (pc := 35) F dX6_recordHour_35 rfl 1 rfl ?_
    refine sw_get (pc := 36) (Cn := RX6) (T := TX6) (N := 20) (ci := 6) (v := .ref a10) F in6 0 rfl rfl 15 (by decide) rfl (List.mem_of_getElem? (i := 1) rfl) rfl dX6_recordHour_36 ?_
    refine sw_get (pc := 39) (Cn := RX5) (T := TX5) (N := 4) (ci := 5) (v := .ref a11) F in5 1 rfl rfl 2 (by decide) rfl (List.mem_of_getElem? (i := 4) rfl) rfl dX6_recordHour_39 ?_
    refine sw_get (pc := 42) (Cn := RX7) (T := TX7) (N := 4) (ci := 7) (v := .int uwn) F in7 2 rfl rfl 0 (by decide) rfl (List.mem_of_getElem? (i := 5) rfl) rfl dX6_recordHour_42 ?_
    refine sw_i2l (pc := 45) F dX6_recordHour_45 rfl ?_
    refine sw_callv (pc := 46) (wr := [(h0, .inr (6, [.int tm, .int ch, .ref a1, .ref a2, .ref a3, .ref a4, .int rg, .int hd, .int df, .ref a5, .ref a8, .long fl, .long ms, .long vo, .ref a9, .ref a10, .ref a13, .ref a14, .ref a15, .ref a16])), (a10, .inr (5, [.long um, .int ua, .ref a11, .ref a12])), (a11, .inr (7, [.int uwn, .long uwd, .long uwp, .long uwt])), (a12, .inr (7, [.int uln, .long uld, .long ulp, .long ult]))]) (k' := 0) (n' := 0) F (sw_runV (R := ({ frames := 2, cells := 0, slots := 0, locals := 47 } : Room)) (q0 := 0) (na := 2) F T.2.1 T.2.2.1 (k_X4_put l G a14 a17 168 24 7 o_67 o_68 o_74 1 uwn.toInt64 (by decide)) [4, 5] rfl (by decide) gX6_recordHour_X4_put rfl rfl rfl (by decide +kernel) ⟨Nat.le_of_ble_eq_true rfl, Nat.le_of_ble_eq_true rfl⟩ rfl rfl rfl rfl rfl (Nat.le_of_ble_eq_true rfl) dX6_recordHour_46 (Nat.le_of_ble_eq_true rfl) (Nat.le_of_ble_eq_true rfl)) [4, 5] [0, 1, 2, 3] rfl rfl (by decide) (by decide) rfl rfl (fun u_77 h_78 => ?_)
    obtain ⟨o_79, eu_77⟩ : ∃ z, z = u_77 := ⟨_, rfl⟩; subst eu_77
    have e_80 : o_79 = f_X4_put_o1 168 24 7 o_67 o_68 o_74 1 uwn.toInt64 := h_78
    refine sw_eq (ws' := [(h0, .inr (6, [.int tm, .int ch, .ref a1, .ref a2, .ref a3, .ref a4, .int rg, .int hd, .int df, .ref a5, .ref a8, .long fl, .long ms, .long vo, .ref a9, .ref a10, .ref a13, .ref a14, .ref a15, .ref a16])), (a10, .inr (5, [.long um, .int ua, .ref a11, .ref a12])), (a11, .inr (7, [.int uwn, .long uwd, .long uwp, .long uwt])), (a12, .inr (7, [.int uln, .long uld, .long ulp, .long ult])), (a14, .inr (4, [.int 24, .int 7, .ref a17, .int o_67, .int o_68])), (a17, .inl (G.2.1.2, 168, .inr (.inl o_79)))]) (lv' := [(1, .ref a11), (0, .ref h0)]) (st' := []) rfl rfl rfl ?_
    refine sw_aload_n (pc := 49) F dX6_recordHour_49 rfl 1 rfl ?_
    refine sw_get (pc := 50) (Cn := RX6) (T := TX6) (N := 20) (ci := 6) (v := .ref a14) F in6 0 rfl rfl 17 (by decide) rfl (List.mem_of_getElem? (i := 2) rfl) rfl dX6_recordHour_50 ?_
    refine sw_iconst (pc := 53) (v := 2) F dX6_recordHour_53 rfl ?_
    refine sw_aload_n (pc := 54) F dX6_recordHour_54 rfl 0 rfl ?_
    refine sw_aload_n (pc := 55) F dX6_recordHour_55 rfl 0 rfl ?_
    refine sw_get (pc := 56) (Cn := RX7) (T := TX7) (N := 4) (ci := 7) (v := .long uwd) F in7 2 rfl rfl 1 (by decide) rfl (List.mem_of_getElem? (i := 6) rfl) rfl dX6_recordHour_56 ?_
    refine sw_calll (pc := 59) (wr := [(h0, .inr (6, [.int tm, .int ch, .ref a1, .ref a2, .ref a3, .ref a4, .int rg, .int hd, .int df, .ref a5, .ref a8, .long fl, .long ms, .long vo, .ref a9, .ref a10, .ref a13, .ref a14, .ref a15, .ref a16])), (a10, .inr (5, [.long um, .int ua, .ref a11, .ref a12])), (a12, .inr (7, [.int uln, .long uld, .long ulp, .long ult])), (a14, .inr (4, [.int 24, .int 7, .ref a17, .int o_67, .int o_68])), (a17, .inl (G.2.1.2, 168, .inr (.inl o_79)))]) (k' := 0) (n' := 0) F (sw_runV (R := ({ frames := 2, cells := 0, slots := 0, locals := 47 } : Room)) (q0 := 0) (na := 1) F T.2.1 T.2.2.1 (k_X7_mean l G a11 uwn uwd uwp uwt uwd) [2] rfl (by decide) gX6_recordHour_X7_mean rfl rfl rfl (by decide +kernel) ⟨Nat.le_of_ble_eq_true rfl, Nat.le_of_ble_eq_true rfl⟩ rfl rfl rfl rfl rfl (Nat.le_of_ble_eq_true rfl) dX6_recordHour_59 (Nat.le_of_ble_eq_true rfl) (Nat.le_of_ble_eq_true rfl)) [2] [0, 1, 3, 4, 5] rfl rfl (by decide) (by decide) rfl rfl (fun r_81 u_82 h_83 => ?_)
    have e_84 : r_81 = f_X7_mean_r uwn uwd := h_83
    refine sw_eq (ws' := [(h0, .inr (6, [.int tm, .int ch, .ref a1, .ref a2, .ref a3, .ref a4, .int rg, .int hd, .int df, .ref a5, .ref a8, .long fl, .long ms, .long vo, .ref a9, .ref a10, .ref a13, .ref a14, .ref a15, .ref a16])), (a10, .inr (5, [.long um, .int ua, .ref a11, .ref a12])), (a12, .inr (7, [.int uln, .long uld, .long ulp, .long ult])), (a14, .inr (4, [.int 24, .int 7, .ref a17, .int o_67, .int o_68])), (a17, .inl (G.2.1.2, 168, .inr (.inl o_79))), (a11, .inr (7, [.int uwn, .long uwd, .long uwp, .long uwt]))]) (lv' := [(1, .ref a11), (0, .ref h0)]) (st' := [.long r_81, .int 2, .ref a14]) rfl rfl rfl ?_
    refine sw_callv (pc := 62) (wr := [(h0, .inr (6, [.int tm, .int ch, .ref a1, .ref a2, .ref a3, .ref a4, .int rg, .int hd, .int df, .ref a5, .ref a8, .long fl, .long ms, .long vo, .ref a9, .ref a10, .ref a13, .ref a14, .ref a15, .ref a16])), (a10, .inr (5, [.long um, .int ua, .ref a11, .ref a12])), (a12, .inr (7, [.int uln, .long uld, .long ulp, .long ult])), (a11, .inr (7, [.int uwn, .long uwd, .long uwp, .long uwt]))]) (k' := 0) (n' := 0) F (sw_runV (R := ({ frames := 2, cells := 0, slots := 0, locals := 47 } : Room)) (q0 := 0) (na := 2) F T.2.1 T.2.2.1 (k_X4_put l G a14 a17 168 24 7 o_67 o_68 o_79 2 r_81 (by decide)) [3, 4] rfl (by decide) gX6_recordHour_X4_put rfl rfl rfl (by decide +kernel) ⟨Nat.le_of_ble_eq_true rfl, Nat.le_of_ble_eq_true rfl⟩ rfl rfl rfl rfl rfl (Nat.le_of_ble_eq_true rfl) dX6_recordHour_62 (Nat.le_of_ble_eq_true rfl) (Nat.le_of_ble_eq_true rfl)) [3, 4] [0, 1, 2, 5] rfl rfl (by decide) (by decide) rfl rfl (fun u_86 h_87 => ?_)
    obtain ⟨o_88, eu_86⟩ : ∃ z, z = u_86 := ⟨_, rfl⟩; subst eu_86
    have e_89 : o_88 = f_X4_put_o1 168 24 7 o_67 o_68 o_79 2 r_81 := h_87
    refine sw_eq (ws' := [(h0, .inr (6, [.int tm, .int ch, .ref a1, .ref a2, .ref a3, .ref a4, .int rg, .int hd, .int df, .ref a5, .ref a8, .long fl, .long ms, .long vo, .ref a9, .ref a10, .ref a13, .ref a14, .ref a15, .ref a16])), (a10, .inr (5, [.long um, .int ua, .ref a11, .ref a12])), (a12, .inr (7, [.int uln, .long uld, .long ulp, .long ult])), (a11, .inr (7, [.int uwn, .long uwd, .long uwp, .long uwt])), (a14, .inr (4, [.int 24, .int 7, .ref a17, .int o_67, .int o_68])), (a17, .inl (G.2.1.2, 168, .inr (.inl o_88)))]) (lv' := [(1, .ref a11), (0, .ref h0)]) (st' := []) rfl rfl rfl ?_
    refine sw_aload_n (pc := 65) F dX6_recordHour_65 rfl 1 rfl ?_
    refine sw_get (pc := 66) (Cn := RX6) (T := TX6) (N := 20) (ci := 6) (v := .ref a14) F in6 0 rfl rfl 17 (by decide) rfl (List.mem_of_getElem? (i := 2) rfl) rfl dX6_recordHour_66 ?_
    refine sw_iconst (pc := 69) (v := 3) F dX6_recordHour_69 rfl ?_
    refine sw_aload_n (pc := 70) F dX6_recordHour_70 rfl 0 rfl ?_
    refine sw_aload_n (pc := 71) F dX6_recordHour_71 rfl 0 rfl ?_
    refine sw_get (pc := 72) (Cn := RX7) (T := TX7) (N := 4) (ci := 7) (v := .long uwp) F in7 3 rfl rfl 2 (by decide) rfl (List.mem_of_getElem? (i := 7) rfl) rfl dX6_recordHour_72 ?_
    refine sw_calll (pc := 75) (wr := [(h0, .inr (6, [.int tm, .int ch, .ref a1, .ref a2, .ref a3, .ref a4, .int rg, .int hd, .int df, .ref a5, .ref a8, .long fl, .long ms, .long vo, .ref a9, .ref a10, .ref a13, .ref a14, .ref a15, .ref a16])), (a10, .inr (5, [.long um, .int ua, .ref a11, .ref a12])), (a12, .inr (7, [.int uln, .long uld, .long ulp, .long ult])), (a14, .inr (4, [.int 24, .int 7, .ref a17, .int o_67, .int o_68])), (a17, .inl (G.2.1.2, 168, .inr (.inl o_88)))]) (k' := 0) (n' := 0) F (sw_runV (R := ({ frames := 2, cells := 0, slots := 0, locals := 47 } : Room)) (q0 := 0) (na := 1) F T.2.1 T.2.2.1 (k_X7_mean l G a11 uwn uwd uwp uwt uwp) [3] rfl (by decide) gX6_recordHour_X7_mean rfl rfl rfl (by decide +kernel) ⟨Nat.le_of_ble_eq_true rfl, Nat.le_of_ble_eq_true rfl⟩ rfl rfl rfl rfl rfl (Nat.le_of_ble_eq_true rfl) dX6_recordHour_75 (Nat.le_of_ble_eq_true rfl) (Nat.le_of_ble_eq_true rfl)) [3] [0, 1, 2, 4, 5] rfl rfl (by decide) (by decide) rfl rfl (fun r_90 u_91 h_92 => ?_)
    have e_93 : r_90 = f_X7_mean_r uwn uwp := h_92
    refine sw_eq (ws' := [(h0, .inr (6, [.int tm, .int ch, .ref a1, .ref a2, .ref a3, .ref a4, .int rg, .int hd, .int df, .ref a5, .ref a8, .long fl, .long ms, .long vo, .ref a9, .ref a10, .ref a13, .ref a14, .ref a15, .ref a16])), (a10, .inr (5, [.long um, .int ua, .ref a11, .ref a12])), (a12, .inr (7, [.int uln, .long uld, .long ulp, .long ult])), (a14, .inr (4, [.int 24, .int 7, .ref a17, .int o_67, .int o_68])), (a17, .inl (G.2.1.2, 168, .inr (.inl o_88))), (a11, .inr (7, [.int uwn, .long uwd, .long uwp, .long uwt]))]) (lv' := [(1, .ref a11), (0, .ref h0)]) (st' := [.long r_90, .int 3, .ref a14]) rfl rfl rfl ?_
    refine sw_callv (pc := 78) (wr := [(h0, .inr (6, [.int tm, .int ch, .ref a1, .ref a2, .ref a3, .ref a4, .int rg, .int hd, .int df, .ref a5, .ref a8, .long fl, .long ms, .long vo, .ref a9, .ref a10, .ref a13, .ref a14, .ref a15, .ref a16])), (a10, .inr (5, [.long um, .int ua, .ref a11, .ref a12])), (a12, .inr (7, [.int uln, .long uld, .long ulp, .long ult])), (a11, .inr (7, [.int uwn, .long uwd, .long uwp, .long uwt]))]) (k' := 0) (n' := 0) F (sw_runV (R := ({ frames := 2, cells := 0, slots := 0, locals := 47 } : Room)) (q0 := 0) (na := 2) F T.2.1 T.2.2.1 (k_X4_put l G a14 a17 168 24 7 o_67 o_68 o_88 3 r_90 (by decide)) [3, 4] rfl (by decide) gX6_recordHour_X4_put rfl rfl rfl (by decide +kernel) ⟨Nat.le_of_ble_eq_true rfl, Nat.le_of_ble_eq_true rfl⟩ rfl rfl rfl rfl rfl (Nat.le_of_ble_eq_true rfl) dX6_recordHour_78 (Nat.le_of_ble_eq_true rfl) (Nat.le_of_ble_eq_true rfl)) [3, 4] [0, 1, 2, 5] rfl rfl (by decide) (by decide) rfl rfl (fun u_95 h_96 => ?_)
    obtain ⟨o_97, eu_95⟩ : ∃ z, z = u_95 := ⟨_, rfl⟩; subst eu_95
    have e_98 : o_97 = f_X4_put_o1 168 24 7 o_67 o_68 o_88 3 r_90 := h_96
    refine sw_eq (ws' := [(h0, .inr (6, [.int tm, .int ch, .ref a1, .ref a2, .ref a3, .ref a4, .int rg, .int hd, .int df, .ref a5, .ref a8, .long fl, .long ms, .long vo, .ref a9, .ref a10, .ref a13, .ref a14, .ref a15, .ref a16])), (a10, .inr (5, [.long um, .int ua, .ref a11, .ref a12])), (a12, .inr (7, [.int uln, .long uld, .long ulp, .long ult])), (a11, .inr (7, [.int uwn, .long uwd, .long uwp, .long uwt])), (a14, .inr (4, [.int 24, .int 7, .ref a17, .int o_67, .int o_68])), (a17, .inl (G.2.1.2, 168, .inr (.inl o_97)))]) (lv' := [(1, .ref a11), (0, .ref h0)]) (st' := []) rfl rfl rfl ?_
    refine sw_aload_n (pc := 81) F dX6_recordHour_81 rfl 1 rfl ?_
    refine sw_get (pc := 82) (Cn := RX6) (T := TX6) (N := 20) (ci := 6) (v := .ref a14) F in6 0 rfl rfl 17 (by decide) rfl (List.mem_of_getElem? (i := 2) rfl) rfl dX6_recordHour_82 ?_
    refine sw_iconst (pc := 85) (v := 4) F dX6_recordHour_85 rfl ?_
    refine sw_aload_n (pc := 86) F dX6_recordHour_86 rfl 0 rfl ?_
    refine sw_aload_n (pc := 87) F dX6_recordHour_87 rfl 0 rfl ?_
    refine sw_get (pc := 88) (Cn := RX7) (T := TX7) (N := 4) (ci := 7) (v := .long uwt) F in7 3 rfl rfl 3 (by decide) rfl (List.mem_of_getElem? (i := 8) rfl) rfl dX6_recordHour_88 ?_
    refine sw_calll (pc := 91) (wr := [(h0, .inr (6, [.int tm, .int ch, .ref a1, .ref a2, .ref a3, .ref a4, .int rg, .int hd, .int df, .ref a5, .ref a8, .long fl, .long ms, .long vo, .ref a9, .ref a10, .ref a13, .ref a14, .ref a15, .ref a16])), (a10, .inr (5, [.long um, .int ua, .ref a11, .ref a12])), (a12, .inr (7, [.int uln, .long uld, .long ulp, .long ult])), (a14, .inr (4, [.int 24, .int 7, .ref a17, .int o_67, .int o_68])), (a17, .inl (G.2.1.2, 168, .inr (.inl o_97)))]) (k' := 0) (n' := 0) F (sw_runV (R := ({ frames := 2, cells := 0, slots := 0, locals := 47 } : Room)) (q0 := 0) (na := 1) F T.2.1 T.2.2.1 (k_X7_mean l G a11 uwn uwd uwp uwt uwt) [3] rfl (by decide) gX6_recordHour_X7_mean rfl rfl rfl (by decide +kernel) ⟨Nat.le_of_ble_eq_true rfl, Nat.le_of_ble_eq_true rfl⟩ rfl rfl rfl rfl rfl (Nat.le_of_ble_eq_true rfl) dX6_recordHour_91 (Nat.le_of_ble_eq_true rfl) (Nat.le_of_ble_eq_true rfl)) [3] [0, 1, 2, 4, 5] rfl rfl (by decide) (by decide) rfl rfl (fun r_99 u_100 h_101 => ?_)
    have e_102 : r_99 = f_X7_mean_r uwn uwt := h_101
    refine sw_eq (ws' := [(h0, .inr (6, [.int tm, .int ch, .ref a1, .ref a2, .ref a3, .ref a4, .int rg, .int hd, .int df, .ref a5, .ref a8, .long fl, .long ms, .long vo, .ref a9, .ref a10, .ref a13, .ref a14, .ref a15, .ref a16])), (a10, .inr (5, [.long um, .int ua, .ref a11, .ref a12])), (a12, .inr (7, [.int uln, .long uld, .long ulp, .long ult])), (a14, .inr (4, [.int 24, .int 7, .ref a17, .int o_67, .int o_68])), (a17, .inl (G.2.1.2, 168, .inr (.inl o_97))), (a11, .inr (7, [.int uwn, .long uwd, .long uwp, .long uwt]))]) (lv' := [(1, .ref a11), (0, .ref h0)]) (st' := [.long r_99, .int 4, .ref a14]) rfl rfl rfl ?_
    refine sw_callv (pc := 94) (wr := [(h0, .inr (6, [.int tm, .int ch, .ref a1, .ref a2, .ref a3, .ref a4, .int rg, .int hd, .int df, .ref a5, .ref a8, .long fl, .long ms, .long vo, .ref a9, .ref a10, .ref a13, .ref a14, .ref a15, .ref a16])), (a10, .inr (5, [.long um, .int ua, .ref a11, .ref a12])), (a12, .inr (7, [.int uln, .long uld, .long ulp, .long ult])), (a11, .inr (7, [.int uwn, .long uwd, .long uwp, .long uwt]))]) (k' := 0) (n' := 0) F (sw_runV (R := ({ frames := 2, cells := 0, slots := 0, locals := 47 } : Room)) (q0 := 0) (na := 2) F T.2.1 T.2.2.1 (k_X4_put l G a14 a17 168 24 7 o_67 o_68 o_97 4 r_99 (by decide)) [3, 4] rfl (by decide) gX6_recordHour_X4_put rfl rfl rfl (by decide +kernel) ⟨Nat.le_of_ble_eq_true rfl, Nat.le_of_ble_eq_true rfl⟩ rfl rfl rfl rfl rfl (Nat.le_of_ble_eq_true rfl) dX6_recordHour_94 (Nat.le_of_ble_eq_true rfl) (Nat.le_of_ble_eq_true rfl)) [3, 4] [0, 1, 2, 5] rfl rfl (by decide) (by decide) rfl rfl (fun u_104 h_105 => ?_)
    obtain ⟨o_106, eu_104⟩ : ∃ z, z = u_104 := ⟨_, rfl⟩; subst eu_104
    have e_107 : o_106 = f_X4_put_o1 168 24 7 o_67 o_68 o_97 4 r_99 := h_105
    refine sw_eq (ws' := [(h0, .inr (6, [.int tm, .int ch, .ref a1, .ref a2, .ref a3, .ref a4, .int rg, .int hd, .int df, .ref a5, .ref a8, .long fl, .long ms, .long vo, .ref a9, .ref a10, .ref a13, .ref a14, .ref a15, .ref a16])), (a10, .inr (5, [.long um, .int ua, .ref a11, .ref a12])), (a12, .inr (7, [.int uln, .long uld, .long ulp, .long ult])), (a11, .inr (7, [.int uwn, .long uwd, .long uwp, .long uwt])), (a14, .inr (4, [.int 24, .int 7, .ref a17, .int o_67, .int o_68])), (a17, .inl (G.2.1.2, 168, .inr (.inl o_106)))]) (lv' := [(1, .ref a11), (0, .ref h0)]) (st' := []) rfl rfl rfl ?_
    refine sw_aload_n (pc := 97) F dX6_recordHour_97 rfl 1 rfl ?_
    refine sw_get (pc := 98) (Cn := RX6) (T := TX6) (N := 20) (ci := 6) (v := .ref a14) F in6 0 rfl rfl 17 (by decide) rfl (List.mem_of_getElem? (i := 2) rfl) rfl dX6_recordHour_98 ?_
    refine sw_iconst (pc := 101) (v := 5) F dX6_recordHour_101 rfl ?_
    refine sw_aload_n (pc := 102) F dX6_recordHour_102 rfl 1 rfl ?_
    refine sw_get (pc := 103) (Cn := RX6) (T := TX6) (N := 20) (ci := 6) (v := .ref a10) F in6 0 rfl rfl 15 (by decide) rfl (List.mem_of_getElem? (i := 1) rfl) rfl dX6_recordHour_103 ?_
    refine sw_get (pc := 106) (Cn := RX5) (T := TX5) (N := 4) (ci := 5) (v := .int ua) F in5 1 rfl rfl 1 (by decide) rfl (List.mem_of_getElem? (i := 9) rfl) rfl dX6_recordHour_106 ?_
    refine sw_i2l (pc := 109) F dX6_recordHour_109 rfl ?_
    refine sw_callv (pc := 110) (wr := [(h0, .inr (6, [.int tm, .int ch, .ref a1, .ref a2, .ref a3, .ref a4, .int rg, .int hd, .int df, .ref a5, .ref a8, .long fl, .long ms, .long vo, .ref a9, .ref a10, .ref a13, .ref a14, .ref a15, .ref a16])), (a10, .inr (5, [.long um, .int ua, .ref a11, .ref a12])), (a12, .inr (7, [.int uln, .long uld, .long ulp, .long ult])), (a11, .inr (7, [.int uwn, .long uwd, .long uwp, .long uwt]))]) (k' := 0) (n' := 0) F (sw_runV (R := ({ frames := 2, cells := 0, slots := 0, locals := 47 } : Room)) (q0 := 0) (na := 2) F T.2.1 T.2.2.1 (k_X4_put l G a14 a17 168 24 7 o_67 o_68 o_106 5 ua.toInt64 (by decide)) [4, 5] rfl (by decide) gX6_recordHour_X4_put rfl rfl rfl (by decide +kernel) ⟨Nat.le_of_ble_eq_true rfl, Nat.le_of_ble_eq_true rfl⟩ rfl rfl rfl rfl rfl (Nat.le_of_ble_eq_true rfl) dX6_recordHour_110 (Nat.le_of_ble_eq_true rfl) (Nat.le_of_ble_eq_true rfl)) [4, 5] [0, 1, 2, 3] rfl rfl (by decide) (by decide) rfl rfl (fun u_109 h_110 => ?_)
    obtain ⟨o_111, eu_109⟩ : ∃ z, z = u_109 := ⟨_, rfl⟩; subst eu_109
    have e_112 : o_111 = f_X4_put_o1 168 24 7 o_67 o_68 o_106 5 ua.toInt64 := h_110
    refine sw_eq (ws' := [(h0, .inr (6, [.int tm, .int ch, .ref a1, .ref a2, .ref a3, .ref a4, .int rg, .int hd, .int df, .ref a5, .ref a8, .long fl, .long ms, .long vo, .ref a9, .ref a10, .ref a13, .ref a14, .ref a15, .ref a16])), (a10, .inr (5, [.long um, .int ua, .ref a11, .ref a12])), (a12, .inr (7, [.int uln, .long uld, .long ulp, .long ult])), (a11, .inr (7, [.int uwn, .long uwd, .long uwp, .long uwt])), (a14, .inr (4, [.int 24, .int 7, .ref a17, .int o_67, .int o_68])), (a17, .inl (G.2.1.2, 168, .inr (.inl o_111)))]) (lv' := [(1, .ref a11), (0, .ref h0)]) (st' := []) rfl rfl rfl ?_
    refine sw_aload_n (pc := 113) F dX6_recordHour_113 rfl 1 rfl ?_
    refine sw_get (pc := 114) (Cn := RX6) (T := TX6) (N := 20) (ci := 6) (v := .ref a14) F in6 0 rfl rfl 17 (by decide) rfl (List.mem_of_getElem? (i := 2) rfl) rfl dX6_recordHour_114 ?_
    refine sw_bipush (pc := 117) (v := 6) F dX6_recordHour_117 rfl ?_
    refine sw_aload_n (pc := 119) F dX6_recordHour_119 rfl 1 rfl ?_
    refine sw_get (pc := 120) (Cn := RX6) (T := TX6) (N := 20) (ci := 6) (v := .int tm) F in6 0 rfl rfl 0 (by decide) rfl (List.mem_of_getElem? (i := 10) rfl) rfl dX6_recordHour_120 ?_
    refine sw_i2l (pc := 123) F dX6_recordHour_123 rfl ?_
    refine sw_callv (pc := 124) (wr := [(h0, .inr (6, [.int tm, .int ch, .ref a1, .ref a2, .ref a3, .ref a4, .int rg, .int hd, .int df, .ref a5, .ref a8, .long fl, .long ms, .long vo, .ref a9, .ref a10, .ref a13, .ref a14, .ref a15, .ref a16])), (a10, .inr (5, [.long um, .int ua, .ref a11, .ref a12])), (a12, .inr (7, [.int uln, .long uld, .long ulp, .long ult])), (a11, .inr (7, [.int uwn, .long uwd, .long uwp, .long uwt]))]) (k' := 0) (n' := 0) F (sw_runV (R := ({ frames := 2, cells := 0, slots := 0, locals := 47 } : Room)) (q0 := 0) (na := 2) F T.2.1 T.2.2.1 (k_X4_put l G a14 a17 168 24 7 o_67 o_68 o_111 6 tm.toInt64 (by decide)) [4, 5] rfl (by decide) gX6_recordHour_X4_put rfl rfl rfl (by decide +kernel) ⟨Nat.le_of_ble_eq_true rfl, Nat.le_of_ble_eq_true rfl⟩ rfl rfl rfl rfl rfl (Nat.le_of_ble_eq_true rfl) dX6_recordHour_124 (Nat.le_of_ble_eq_true rfl) (Nat.le_of_ble_eq_true rfl)) [4, 5] [0, 1, 2, 3] rfl rfl (by decide) (by decide) rfl rfl (fun u_114 h_115 => ?_)
    obtain ⟨o_116, eu_114⟩ : ∃ z, z = u_114 := ⟨_, rfl⟩; subst eu_114
    have e_117 : o_116 = f_X4_put_o1 168 24 7 o_67 o_68 o_111 6 tm.toInt64 := h_115
    refine sw_eq (ws' := [(h0, .inr (6, [.int tm, .int ch, .ref a1, .ref a2, .ref a3, .ref a4, .int rg, .int hd, .int df, .ref a5, .ref a8, .long fl, .long ms, .long vo, .ref a9, .ref a10, .ref a13, .ref a14, .ref a15, .ref a16])), (a10, .inr (5, [.long um, .int ua, .ref a11, .ref a12])), (a12, .inr (7, [.int uln, .long uld, .long ulp, .long ult])), (a11, .inr (7, [.int uwn, .long uwd, .long uwp, .long uwt])), (a14, .inr (4, [.int 24, .int 7, .ref a17, .int o_67, .int o_68])), (a17, .inl (G.2.1.2, 168, .inr (.inl o_116)))]) (lv' := [(1, .ref a11), (0, .ref h0)]) (st' := []) rfl rfl rfl ?_
    subst e_117
    subst e_112
    subst e_107
    subst e_102
    subst e_98
    subst e_93
    subst e_89
    subst e_84
    subst e_80
    subst e_75
    subst e_70
    subst e_69
    refine sw_perm (ws' := [(h0, .inr (6, [.int tm, .int ch, .ref a1, .ref a2, .ref a3, .ref a4, .int rg, .int hd, .int df, .ref a5, .ref a8, .long fl, .long ms, .long vo, .ref a9, .ref a10, .ref a13, .ref a14, .ref a15, .ref a16])), (a10, .inr (5, [.long um, .int ua, .ref a11, .ref a12])), (a11, .inr (7, [.int uwn, .long uwd, .long uwp, .long uwt])), (a12, .inr (7, [.int uln, .long uld, .long ulp, .long ult])), (a14, .inr (4, [.int 24, .int 7, .ref a17, .int ((f_X4_addRow_o0_3 24 go gn)), .int ((f_X4_addRow_o0_4 24 gn))])), (a17, .inl (G.2.1.2, 168, .inr (.inl ((f_X4_put_o1 168 24 7 (f_X4_addRow_o0_3 24 go gn) (f_X4_addRow_o0_4 24 gn) (f_X4_put_o1 168 24 7 (f_X4_addRow_o0_3 24 go gn) (f_X4_addRow_o0_4 24 gn) (f_X4_put_o1 168 24 7 (f_X4_addRow_o0_3 24 go gn) (f_X4_addRow_o0_4 24 gn) (f_X4_put_o1 168 24 7 (f_X4_addRow_o0_3 24 go gn) (f_X4_addRow_o0_4 24 gn) (f_X4_put_o1 168 24 7 (f_X4_addRow_o0_3 24 go gn) (f_X4_addRow_o0_4 24 gn) (f_X4_put_o1 168 24 7 (f_X4_addRow_o0_3 24 go gn) (f_X4_addRow_o0_4 24 gn) (f_X4_put_o1 168 24 7 (f_X4_addRow_o0_3 24 go gn) (f_X4_addRow_o0_4 24 gn) gf 0 um) 1 uwn.toInt64) 2 (f_X7_mean_r uwn uwd)) 3 (f_X7_mean_r uwn uwp)) 4 (f_X7_mean_r uwn uwt)) 5 ua.toInt64) 6 tm.toInt64)))))]) [0, 1, 3, 2, 4, 5] (by decide) rfl ?_
    exact sw_vret (pc := 127) F T ((f_X4_addRow_o0_3 24 go gn), (f_X4_addRow_o0_4 24 gn), (f_X4_put_o1 168 24 7 (f_X4_addRow_o0_3 24 go gn) (f_X4_addRow_o0_4 24 gn) (f_X4_put_o1 168 24 7 (f_X4_addRow_o0_3 24 go gn) (f_X4_addRow_o0_4 24 gn) (f_X4_put_o1 168 24 7 (f_X4_addRow_o0_3 24 go gn) (f_X4_addRow_o0_4 24 gn) (f_X4_put_o1 168 24 7 (f_X4_addRow_o0_3 24 go gn) (f_X4_addRow_o0_4 24 gn) (f_X4_put_o1 168 24 7 (f_X4_addRow_o0_3 24 go gn) (f_X4_addRow_o0_4 24 gn) (f_X4_put_o1 168 24 7 (f_X4_addRow_o0_3 24 go gn) (f_X4_addRow_o0_4 24 gn) (f_X4_put_o1 168 24 7 (f_X4_addRow_o0_3 24 go gn) (f_X4_addRow_o0_4 24 gn) gf 0 um) 1 uwn.toInt64) 2 (f_X7_mean_r uwn uwd)) 3 (f_X7_mean_r uwn uwp)) 4 (f_X7_mean_r uwn uwt)) 5 ua.toInt64) 6 tm.toInt64)) ⟨rfl, rfl, (by unfold f_X6_recordHour_o5; rw [if_neg c_1])⟩ rfl dX6_recordHour_127
def f_X6_recordDay_o2_3 (ko : Int32) (kn : Int32) : Int32 := (f_X4_addRow_o0_3 5 ko kn)
def f_X6_recordDay_o2_4 (kn : Int32) : Int32 := (f_X4_addRow_o0_4 5 kn)
def f_X6_recordDay_o3 (tm : Int32) (ym : Int64) (yf : Int64) (yh : Int32) (ko : Int32) (kn : Int32) (kf : Nat → Int64) : Nat → Int64 := (f_X4_put_o1 20 5 4 (f_X4_addRow_o0_3 5 ko kn) (f_X4_addRow_o0_4 5 kn) (f_X4_put_o1 20 5 4 (f_X4_addRow_o0_3 5 ko kn) (f_X4_addRow_o0_4 5 kn) (f_X4_put_o1 20 5 4 (f_X4_addRow_o0_3 5 ko kn) (f_X4_addRow_o0_4 5 kn) (f_X4_put_o1 20 5 4 (f_X4_addRow_o0_3 5 ko kn) (f_X4_addRow_o0_4 5 kn) kf 0 ym) 1 yf) 2 yh.toInt64) 3 tm.toInt64)
set_option maxHeartbeats 4000000 in
set_option maxRecDepth 100000 in
theorem k_X6_recordDay (l : Launch) (G : sw_E) (h0 : Nat) (a1 : Nat) (a2 : Nat) (a3 : Nat) (a4 : Nat) (a5 : Nat) (a8 : Nat) (a9 : Nat) (a10 : Nat) (a13 : Nat) (a14 : Nat) (a15 : Nat) (a16 : Nat) (a18 : Nat) (tm : Int32) (ch : Int32) (rg : Int32) (hd : Int32) (df : Int32) (fl : Int64) (ms : Int64) (vo : Int64) (ym : Int64) (yf : Int64) (yh : Int32) (ko : Int32) (kn : Int32) (kf : Nat → Int64)  : sw_M l G yX6_recordDay wsX6_recordDay ({ frames := 2, cells := 0, slots := 0, locals := 47 } : Room) [.ref h0] [(h0, .inr (6, [.int tm, .int ch, .ref a1, .ref a2, .ref a3, .ref a4, .int rg, .int hd, .int df, .ref a5, .ref a8, .long fl, .long ms, .long vo, .ref a9, .ref a10, .ref a13, .ref a14, .ref a15, .ref a16])), (a13, .inr (2, [.long ym, .long yf, .int yh])), (a15, .inr (4, [.int 5, .int 4, .ref a18, .int ko, .int kn])), (a18, .inl (G.2.1.2, 20, .inr (.inl kf)))] (sw_QV G (S := Int32 × Int32 × (Nat → Int64)) (fun (u : Int32 × Int32 × (Nat → Int64)) => u.1 = f_X6_recordDay_o2_3 ko kn ∧ u.2.1 = f_X6_recordDay_o2_4 kn ∧ u.2.2 = f_X6_recordDay_o3 tm ym yf yh ko kn kf) (fun u => [(h0, .inr (6, [.int tm, .int ch, .ref a1, .ref a2, .ref a3, .ref a4, .int rg, .int hd, .int df, .ref a5, .ref a8, .long fl, .long ms, .long vo, .ref a9, .ref a10, .ref a13, .ref a14, .ref a15, .ref a16])), (a13, .inr (2, [.long ym, .long yf, .int yh])), (a15, .inr (4, [.int 5, .int 4, .ref a18, .int u.1, .int u.2.1])), (a18, .inl (G.2.1.2, 20, .inr (.inl u.2.2)))])) 0 0 := by
  refine sw_start (cc := cX6_recordDay) (maxL := 1) (ret := none) (lv := [(0, .ref h0)]) (own := RX6) (nm := "recordDay") (by decide +kernel) rfl rfl rfl rfl (Nat.le_of_ble_eq_true rfl) (fun C F T => ?_)
  have in2 : ∀ w ∈ u_ws RX2 TX2 3, w ∈ wsX6_recordDay := fun w h => List.mem_cons_of_mem _ (List.mem_append_left _ (List.mem_append_right _ (h)))
  have in6 : ∀ w ∈ u_ws RX6 TX6 20, w ∈ wsX6_recordDay := fun w h => List.mem_cons_of_mem _ (List.mem_append_left _ (List.mem_append_left _ (List.mem_append_right _ (h))))
  refine sw_aload_n (pc := 0) F dX6_recordDay_0 rfl 0 rfl ?_
  refine sw_get (pc := 1) (Cn := RX6) (T := TX6) (N := 20) (ci := 6) (v := .ref a15) F in6 0 rfl rfl 18 (by decide) rfl (List.mem_of_getElem? (i := 1) rfl) rfl dX6_recordDay_1 ?_
  refine sw_callv (pc := 4) (wr := [(h0, .inr (6, [.int tm, .int ch, .ref a1, .ref a2, .ref a3, .ref a4, .int rg, .int hd, .int df, .ref a5, .ref a8, .long fl, .long ms, .long vo, .ref a9, .ref a10, .ref a13, .ref a14, .ref a15, .ref a16])), (a13, .inr (2, [.long ym, .long yf, .int yh]))]) (k' := 0) (n' := 0) F (sw_runV (R := ({ frames := 2, cells := 0, slots := 0, locals := 47 } : Room)) (q0 := 0) (na := 0) F T.2.1 T.2.2.1 (k_X4_addRow l G a15 a18 20 5 4 ko kn kf) [2, 3] rfl (by decide) gX6_recordDay_X4_addRow rfl rfl rfl (by decide +kernel) ⟨Nat.le_of_ble_eq_true rfl, Nat.le_of_ble_eq_true rfl⟩ rfl rfl rfl rfl rfl (Nat.le_of_ble_eq_true rfl) dX6_recordDay_4 (Nat.le_of_ble_eq_true rfl) (Nat.le_of_ble_eq_true rfl)) [2, 3] [0, 1] rfl rfl (by decide) (by decide) rfl rfl (fun u_2 h_3 => ?_)
  obtain ⟨o_4, o_5⟩ := u_2
  obtain ⟨e_6, e_7⟩ : o_4 = f_X4_addRow_o0_3 5 ko kn ∧ o_5 = f_X4_addRow_o0_4 5 kn := h_3
  refine sw_eq (ws' := [(h0, .inr (6, [.int tm, .int ch, .ref a1, .ref a2, .ref a3, .ref a4, .int rg, .int hd, .int df, .ref a5, .ref a8, .long fl, .long ms, .long vo, .ref a9, .ref a10, .ref a13, .ref a14, .ref a15, .ref a16])), (a13, .inr (2, [.long ym, .long yf, .int yh])), (a15, .inr (4, [.int 5, .int 4, .ref a18, .int o_4, .int o_5])), (a18, .inl (G.2.1.2, 20, .inr (.inl kf)))]) (lv' := [(0, .ref h0)]) (st' := []) rfl rfl rfl ?_
  refine sw_aload_n (pc := 7) F dX6_recordDay_7 rfl 0 rfl ?_
  refine sw_get (pc := 8) (Cn := RX6) (T := TX6) (N := 20) (ci := 6) (v := .ref a15) F in6 0 rfl rfl 18 (by decide) rfl (List.mem_of_getElem? (i := 1) rfl) rfl dX6_recordDay_8 ?_
  refine sw_iconst (pc := 11) (v := 0) F dX6_recordDay_11 rfl ?_
  refine sw_aload_n (pc := 12) F dX6_recordDay_12 rfl 0 rfl ?_
  refine sw_get (pc := 13) (Cn := RX6) (T := TX6) (N := 20) (ci := 6) (v := .ref a13) F in6 0 rfl rfl 16 (by decide) rfl (List.mem_of_getElem? (i := 2) rfl) rfl dX6_recordDay_13 ?_
  refine sw_get (pc := 16) (Cn := RX2) (T := TX2) (N := 3) (ci := 2) (v := .long ym) F in2 1 rfl rfl 0 (by decide) rfl (List.mem_of_getElem? (i := 3) rfl) rfl dX6_recordDay_16 ?_
  refine sw_callv (pc := 19) (wr := [(h0, .inr (6, [.int tm, .int ch, .ref a1, .ref a2, .ref a3, .ref a4, .int rg, .int hd, .int df, .ref a5, .ref a8, .long fl, .long ms, .long vo, .ref a9, .ref a10, .ref a13, .ref a14, .ref a15, .ref a16])), (a13, .inr (2, [.long ym, .long yf, .int yh]))]) (k' := 0) (n' := 0) F (sw_runV (R := ({ frames := 2, cells := 0, slots := 0, locals := 47 } : Room)) (q0 := 0) (na := 2) F T.2.1 T.2.2.1 (k_X4_put l G a15 a18 20 5 4 o_4 o_5 kf 0 ym (by decide)) [2, 3] rfl (by decide) gX6_recordDay_X4_put rfl rfl rfl (by decide +kernel) ⟨Nat.le_of_ble_eq_true rfl, Nat.le_of_ble_eq_true rfl⟩ rfl rfl rfl rfl rfl (Nat.le_of_ble_eq_true rfl) dX6_recordDay_19 (Nat.le_of_ble_eq_true rfl) (Nat.le_of_ble_eq_true rfl)) [2, 3] [0, 1] rfl rfl (by decide) (by decide) rfl rfl (fun u_9 h_10 => ?_)
  obtain ⟨o_11, eu_9⟩ : ∃ z, z = u_9 := ⟨_, rfl⟩; subst eu_9
  have e_12 : o_11 = f_X4_put_o1 20 5 4 o_4 o_5 kf 0 ym := h_10
  refine sw_eq (ws' := [(h0, .inr (6, [.int tm, .int ch, .ref a1, .ref a2, .ref a3, .ref a4, .int rg, .int hd, .int df, .ref a5, .ref a8, .long fl, .long ms, .long vo, .ref a9, .ref a10, .ref a13, .ref a14, .ref a15, .ref a16])), (a13, .inr (2, [.long ym, .long yf, .int yh])), (a15, .inr (4, [.int 5, .int 4, .ref a18, .int o_4, .int o_5])), (a18, .inl (G.2.1.2, 20, .inr (.inl o_11)))]) (lv' := [(0, .ref h0)]) (st' := []) rfl rfl rfl ?_
  refine sw_aload_n (pc := 22) F dX6_recordDay_22 rfl 0 rfl ?_
  refine sw_get (pc := 23) (Cn := RX6) (T := TX6) (N := 20) (ci := 6) (v := .ref a15) F in6 0 rfl rfl 18 (by decide) rfl (List.mem_of_getElem? (i := 1) rfl) rfl dX6_recordDay_23 ?_
  refine sw_iconst (pc := 26) (v := 1) F dX6_recordDay_26 rfl ?_
  refine sw_aload_n (pc := 27) F dX6_recordDay_27 rfl 0 rfl ?_
  refine sw_get (pc := 28) (Cn := RX6) (T := TX6) (N := 20) (ci := 6) (v := .ref a13) F in6 0 rfl rfl 16 (by decide) rfl (List.mem_of_getElem? (i := 2) rfl) rfl dX6_recordDay_28 ?_
  refine sw_get (pc := 31) (Cn := RX2) (T := TX2) (N := 3) (ci := 2) (v := .long yf) F in2 1 rfl rfl 1 (by decide) rfl (List.mem_of_getElem? (i := 4) rfl) rfl dX6_recordDay_31 ?_
  refine sw_callv (pc := 34) (wr := [(h0, .inr (6, [.int tm, .int ch, .ref a1, .ref a2, .ref a3, .ref a4, .int rg, .int hd, .int df, .ref a5, .ref a8, .long fl, .long ms, .long vo, .ref a9, .ref a10, .ref a13, .ref a14, .ref a15, .ref a16])), (a13, .inr (2, [.long ym, .long yf, .int yh]))]) (k' := 0) (n' := 0) F (sw_runV (R := ({ frames := 2, cells := 0, slots := 0, locals := 47 } : Room)) (q0 := 0) (na := 2) F T.2.1 T.2.2.1 (k_X4_put l G a15 a18 20 5 4 o_4 o_5 o_11 1 yf (by decide)) [2, 3] rfl (by decide) gX6_recordDay_X4_put rfl rfl rfl (by decide +kernel) ⟨Nat.le_of_ble_eq_true rfl, Nat.le_of_ble_eq_true rfl⟩ rfl rfl rfl rfl rfl (Nat.le_of_ble_eq_true rfl) dX6_recordDay_34 (Nat.le_of_ble_eq_true rfl) (Nat.le_of_ble_eq_true rfl)) [2, 3] [0, 1] rfl rfl (by decide) (by decide) rfl rfl (fun u_14 h_15 => ?_)
  obtain ⟨o_16, eu_14⟩ : ∃ z, z = u_14 := ⟨_, rfl⟩; subst eu_14
  have e_17 : o_16 = f_X4_put_o1 20 5 4 o_4 o_5 o_11 1 yf := h_15
  refine sw_eq (ws' := [(h0, .inr (6, [.int tm, .int ch, .ref a1, .ref a2, .ref a3, .ref a4, .int rg, .int hd, .int df, .ref a5, .ref a8, .long fl, .long ms, .long vo, .ref a9, .ref a10, .ref a13, .ref a14, .ref a15, .ref a16])), (a13, .inr (2, [.long ym, .long yf, .int yh])), (a15, .inr (4, [.int 5, .int 4, .ref a18, .int o_4, .int o_5])), (a18, .inl (G.2.1.2, 20, .inr (.inl o_16)))]) (lv' := [(0, .ref h0)]) (st' := []) rfl rfl rfl ?_
  refine sw_aload_n (pc := 37) F dX6_recordDay_37 rfl 0 rfl ?_
  refine sw_get (pc := 38) (Cn := RX6) (T := TX6) (N := 20) (ci := 6) (v := .ref a15) F in6 0 rfl rfl 18 (by decide) rfl (List.mem_of_getElem? (i := 1) rfl) rfl dX6_recordDay_38 ?_
  refine sw_iconst (pc := 41) (v := 2) F dX6_recordDay_41 rfl ?_
  refine sw_aload_n (pc := 42) F dX6_recordDay_42 rfl 0 rfl ?_
  refine sw_get (pc := 43) (Cn := RX6) (T := TX6) (N := 20) (ci := 6) (v := .ref a13) F in6 0 rfl rfl 16 (by decide) rfl (List.mem_of_getElem? (i := 2) rfl) rfl dX6_recordDay_43 ?_
  refine sw_get (pc := 46) (Cn := RX2) (T := TX2) (N := 3) (ci := 2) (v := .int yh) F in2 1 rfl rfl 2 (by decide) rfl (List.mem_of_getElem? (i := 5) rfl) rfl dX6_recordDay_46 ?_
  refine sw_i2l (pc := 49) F dX6_recordDay_49 rfl ?_
  refine sw_callv (pc := 50) (wr := [(h0, .inr (6, [.int tm, .int ch, .ref a1, .ref a2, .ref a3, .ref a4, .int rg, .int hd, .int df, .ref a5, .ref a8, .long fl, .long ms, .long vo, .ref a9, .ref a10, .ref a13, .ref a14, .ref a15, .ref a16])), (a13, .inr (2, [.long ym, .long yf, .int yh]))]) (k' := 0) (n' := 0) F (sw_runV (R := ({ frames := 2, cells := 0, slots := 0, locals := 47 } : Room)) (q0 := 0) (na := 2) F T.2.1 T.2.2.1 (k_X4_put l G a15 a18 20 5 4 o_4 o_5 o_16 2 yh.toInt64 (by decide)) [2, 3] rfl (by decide) gX6_recordDay_X4_put rfl rfl rfl (by decide +kernel) ⟨Nat.le_of_ble_eq_true rfl, Nat.le_of_ble_eq_true rfl⟩ rfl rfl rfl rfl rfl (Nat.le_of_ble_eq_true rfl) dX6_recordDay_50 (Nat.le_of_ble_eq_true rfl) (Nat.le_of_ble_eq_true rfl)) [2, 3] [0, 1] rfl rfl (by decide) (by decide) rfl rfl (fun u_19 h_20 => ?_)
  obtain ⟨o_21, eu_19⟩ : ∃ z, z = u_19 := ⟨_, rfl⟩; subst eu_19
  have e_22 : o_21 = f_X4_put_o1 20 5 4 o_4 o_5 o_16 2 yh.toInt64 := h_20
  refine sw_eq (ws' := [(h0, .inr (6, [.int tm, .int ch, .ref a1, .ref a2, .ref a3, .ref a4, .int rg, .int hd, .int df, .ref a5, .ref a8, .long fl, .long ms, .long vo, .ref a9, .ref a10, .ref a13, .ref a14, .ref a15, .ref a16])), (a13, .inr (2, [.long ym, .long yf, .int yh])), (a15, .inr (4, [.int 5, .int 4, .ref a18, .int o_4, .int o_5])), (a18, .inl (G.2.1.2, 20, .inr (.inl o_21)))]) (lv' := [(0, .ref h0)]) (st' := []) rfl rfl rfl ?_
  refine sw_aload_n (pc := 53) F dX6_recordDay_53 rfl 0 rfl ?_
  refine sw_get (pc := 54) (Cn := RX6) (T := TX6) (N := 20) (ci := 6) (v := .ref a15) F in6 0 rfl rfl 18 (by decide) rfl (List.mem_of_getElem? (i := 1) rfl) rfl dX6_recordDay_54 ?_
  refine sw_iconst (pc := 57) (v := 3) F dX6_recordDay_57 rfl ?_
  refine sw_aload_n (pc := 58) F dX6_recordDay_58 rfl 0 rfl ?_
  refine sw_get (pc := 59) (Cn := RX6) (T := TX6) (N := 20) (ci := 6) (v := .int tm) F in6 0 rfl rfl 0 (by decide) rfl (List.mem_of_getElem? (i := 6) rfl) rfl dX6_recordDay_59 ?_
  refine sw_i2l (pc := 62) F dX6_recordDay_62 rfl ?_
  refine sw_callv (pc := 63) (wr := [(h0, .inr (6, [.int tm, .int ch, .ref a1, .ref a2, .ref a3, .ref a4, .int rg, .int hd, .int df, .ref a5, .ref a8, .long fl, .long ms, .long vo, .ref a9, .ref a10, .ref a13, .ref a14, .ref a15, .ref a16])), (a13, .inr (2, [.long ym, .long yf, .int yh]))]) (k' := 0) (n' := 0) F (sw_runV (R := ({ frames := 2, cells := 0, slots := 0, locals := 47 } : Room)) (q0 := 0) (na := 2) F T.2.1 T.2.2.1 (k_X4_put l G a15 a18 20 5 4 o_4 o_5 o_21 3 tm.toInt64 (by decide)) [2, 3] rfl (by decide) gX6_recordDay_X4_put rfl rfl rfl (by decide +kernel) ⟨Nat.le_of_ble_eq_true rfl, Nat.le_of_ble_eq_true rfl⟩ rfl rfl rfl rfl rfl (Nat.le_of_ble_eq_true rfl) dX6_recordDay_63 (Nat.le_of_ble_eq_true rfl) (Nat.le_of_ble_eq_true rfl)) [2, 3] [0, 1] rfl rfl (by decide) (by decide) rfl rfl (fun u_24 h_25 => ?_)
  obtain ⟨o_26, eu_24⟩ : ∃ z, z = u_24 := ⟨_, rfl⟩; subst eu_24
  have e_27 : o_26 = f_X4_put_o1 20 5 4 o_4 o_5 o_21 3 tm.toInt64 := h_25
  refine sw_eq (ws' := [(h0, .inr (6, [.int tm, .int ch, .ref a1, .ref a2, .ref a3, .ref a4, .int rg, .int hd, .int df, .ref a5, .ref a8, .long fl, .long ms, .long vo, .ref a9, .ref a10, .ref a13, .ref a14, .ref a15, .ref a16])), (a13, .inr (2, [.long ym, .long yf, .int yh])), (a15, .inr (4, [.int 5, .int 4, .ref a18, .int o_4, .int o_5])), (a18, .inl (G.2.1.2, 20, .inr (.inl o_26)))]) (lv' := [(0, .ref h0)]) (st' := []) rfl rfl rfl ?_
  subst e_27
  subst e_22
  subst e_17
  subst e_12
  subst e_7
  subst e_6
  exact sw_vret (pc := 66) F T ((f_X4_addRow_o0_3 5 ko kn), (f_X4_addRow_o0_4 5 kn), (f_X4_put_o1 20 5 4 (f_X4_addRow_o0_3 5 ko kn) (f_X4_addRow_o0_4 5 kn) (f_X4_put_o1 20 5 4 (f_X4_addRow_o0_3 5 ko kn) (f_X4_addRow_o0_4 5 kn) (f_X4_put_o1 20 5 4 (f_X4_addRow_o0_3 5 ko kn) (f_X4_addRow_o0_4 5 kn) (f_X4_put_o1 20 5 4 (f_X4_addRow_o0_3 5 ko kn) (f_X4_addRow_o0_4 5 kn) kf 0 ym) 1 yf) 2 yh.toInt64) 3 tm.toInt64)) ⟨rfl, rfl, rfl⟩ rfl dX6_recordDay_66
def f_X6_endHour_o4_0 (tm : Int32) (ch : Int32) (um : Int64) (ym : Int64) : Int64 := if ((tm / 3600) - (tm / 3600) / 24 * 24) = ch then (0) else ((f_X2_add_o0_0 ym um))
def f_X6_endHour_o4_1 (tm : Int32) (ch : Int32) (uwn : Int32) (yf : Int64) : Int64 := if ((tm / 3600) - (tm / 3600) / 24 * 24) = ch then (0) else ((f_X2_add_o0_1 yf uwn))
def f_X6_endHour_o4_2 (tm : Int32) (ch : Int32) (yh : Int32) : Int32 := if ((tm / 3600) - (tm / 3600) / 24 * 24) = ch then (0) else ((f_X2_add_o0_2 yh))
def f_X6_endHour_o5_3 (go : Int32) (gn : Int32) : Int32 := (f_X6_recordHour_o4_3 go gn)
def f_X6_endHour_o5_4 (gn : Int32) : Int32 := (f_X6_recordHour_o4_4 gn)
def f_X6_endHour_o6 (tm : Int32) (um : Int64) (ua : Int32) (uwn : Int32) (uwd : Int64) (uwp : Int64) (uwt : Int64) (uln : Int32) (uld : Int64) (ulp : Int64) (ult : Int64) (go : Int32) (gn : Int32) (gf : Nat → Int64) : Nat → Int64 := (f_X6_recordHour_o5 tm um ua uwn uwd uwp uwt uln uld ulp ult go gn gf)
def f_X6_endHour_o7_3 (tm : Int32) (ch : Int32) (ko : Int32) (kn : Int32) : Int32 := if ((tm / 3600) - (tm / 3600) / 24 * 24) = ch then ((f_X6_recordDay_o2_3 ko kn)) else (ko)
def f_X6_endHour_o7_4 (tm : Int32) (ch : Int32) (kn : Int32) : Int32 := if ((tm / 3600) - (tm / 3600) / 24 * 24) = ch then ((f_X6_recordDay_o2_4 kn)) else (kn)
def f_X6_endHour_o8 (tm : Int32) (ch : Int32) (um : Int64) (uwn : Int32) (ym : Int64) (yf : Int64) (yh : Int32) (ko : Int32) (kn : Int32) (kf : Nat → Int64) : Nat → Int64 := if ((tm / 3600) - (tm / 3600) / 24 * 24) = ch then ((f_X6_recordDay_o3 tm (f_X2_add_o0_0 ym um) (f_X2_add_o0_1 yf uwn) (f_X2_add_o0_2 yh) ko kn kf)) else (kf)
set_option maxHeartbeats 4000000 in
set_option maxRecDepth 100000 in
theorem k_X6_endHour (l : Launch) (G : sw_E) (h0 : Nat) (a1 : Nat) (a2 : Nat) (a3 : Nat) (a4 : Nat) (a5 : Nat) (a8 : Nat) (a9 : Nat) (a10 : Nat) (a13 : Nat) (a14 : Nat) (a15 : Nat) (a16 : Nat) (a11 : Nat) (a12 : Nat) (a17 : Nat) (a18 : Nat) (tm : Int32) (ch : Int32) (rg : Int32) (hd : Int32) (df : Int32) (fl : Int64) (ms : Int64) (vo : Int64) (um : Int64) (ua : Int32) (uwn : Int32) (uwd : Int64) (uwp : Int64) (uwt : Int64) (uln : Int32) (uld : Int64) (ulp : Int64) (ult : Int64) (ym : Int64) (yf : Int64) (yh : Int32) (go : Int32) (gn : Int32) (gf : Nat → Int64) (ko : Int32) (kn : Int32) (kf : Nat → Int64)  : sw_M l G yX6_endHour wsX6_endHour ({ frames := 3, cells := 0, slots := 0, locals := 68 } : Room) [.ref h0] [(h0, .inr (6, [.int tm, .int ch, .ref a1, .ref a2, .ref a3, .ref a4, .int rg, .int hd, .int df, .ref a5, .ref a8, .long fl, .long ms, .long vo, .ref a9, .ref a10, .ref a13, .ref a14, .ref a15, .ref a16])), (a10, .inr (5, [.long um, .int ua, .ref a11, .ref a12])), (a11, .inr (7, [.int uwn, .long uwd, .long uwp, .long uwt])), (a12, .inr (7, [.int uln, .long uld, .long ulp, .long ult])), (a13, .inr (2, [.long ym, .long yf, .int yh])), (a14, .inr (4, [.int 24, .int 7, .ref a17, .int go, .int gn])), (a17, .inl (G.2.1.2, 168, .inr (.inl gf))), (a15, .inr (4, [.int 5, .int 4, .ref a18, .int ko, .int kn])), (a18, .inl (G.2.1.2, 20, .inr (.inl kf)))] (sw_QV G (S := Int64 × Int64 × Int32 × Int32 × Int32 × (Nat → Int64) × Int32 × Int32 × (Nat → Int64)) (fun (u : Int64 × Int64 × Int32 × Int32 × Int32 × (Nat → Int64) × Int32 × Int32 × (Nat → Int64)) => u.1 = f_X6_endHour_o4_0 tm ch um ym ∧ u.2.1 = f_X6_endHour_o4_1 tm ch uwn yf ∧ u.2.2.1 = f_X6_endHour_o4_2 tm ch yh ∧ u.2.2.2.1 = f_X6_endHour_o5_3 go gn ∧ u.2.2.2.2.1 = f_X6_endHour_o5_4 gn ∧ u.2.2.2.2.2.1 = f_X6_endHour_o6 tm um ua uwn uwd uwp uwt uln uld ulp ult go gn gf ∧ u.2.2.2.2.2.2.1 = f_X6_endHour_o7_3 tm ch ko kn ∧ u.2.2.2.2.2.2.2.1 = f_X6_endHour_o7_4 tm ch kn ∧ u.2.2.2.2.2.2.2.2 = f_X6_endHour_o8 tm ch um uwn ym yf yh ko kn kf) (fun u => [(h0, .inr (6, [.int tm, .int ch, .ref a1, .ref a2, .ref a3, .ref a4, .int rg, .int hd, .int df, .ref a5, .ref a8, .long fl, .long ms, .long vo, .ref a9, .ref a10, .ref a13, .ref a14, .ref a15, .ref a16])), (a10, .inr (5, [.long 0, .int 0, .ref a11, .ref a12])), (a11, .inr (7, [.int 0, .long 0, .long 0, .long 0])), (a12, .inr (7, [.int 0, .long 0, .long 0, .long 0])), (a13, .inr (2, [.long u.1, .long u.2.1, .int u.2.2.1])), (a14, .inr (4, [.int 24, .int 7, .ref a17, .int u.2.2.2.1, .int u.2.2.2.2.1])), (a17, .inl (G.2.1.2, 168, .inr (.inl u.2.2.2.2.2.1))), (a15, .inr (4, [.int 5, .int 4, .ref a18, .int u.2.2.2.2.2.2.1, .int u.2.2.2.2.2.2.2.1])), (a18, .inl (G.2.1.2, 20, .inr (.inl u.2.2.2.2.2.2.2.2)))])) 0 0 := by
  refine sw_start (cc := cX6_endHour) (maxL := 1) (ret := none) (lv := [(0, .ref h0)]) (own := RX6) (nm := "endHour") (by decide +kernel) rfl rfl rfl rfl (Nat.le_of_ble_eq_true rfl) (fun C F T => ?_)
  have in6 : ∀ w ∈ u_ws RX6 TX6 20, w ∈ wsX6_endHour := fun w h => List.mem_cons_of_mem _ (List.mem_append_left _ (List.mem_append_left _ (List.mem_append_left _ (List.mem_append_left _ (List.mem_append_right _ (h))))))
  refine sw_aload_n (pc := 0) F dX6_endHour_0 rfl 0 rfl ?_
  refine sw_callv (pc := 1) (wr := [(a13, .inr (2, [.long ym, .long yf, .int yh])), (a15, .inr (4, [.int 5, .int 4, .ref a18, .int ko, .int kn])), (a18, .inl (G.2.1.2, 20, .inr (.inl kf)))]) (k' := 0) (n' := 0) F (sw_runV (R := ({ frames := 3, cells := 0, slots := 0, locals := 68 } : Room)) (q0 := 0) (na := 0) F T.2.1 T.2.2.1 (k_X6_recordHour l G h0 a1 a2 a3 a4 a5 a8 a9 a10 a13 a14 a15 a16 a11 a12 a17 tm ch rg hd df fl ms vo um ua uwn uwd uwp uwt uln uld ulp ult go gn gf) [0, 1, 2, 3, 5, 6] rfl (by decide) gX6_endHour_X6_recordHour rfl rfl rfl (by decide +kernel) ⟨Nat.le_of_ble_eq_true rfl, Nat.le_of_ble_eq_true rfl⟩ rfl rfl rfl rfl rfl (Nat.le_of_ble_eq_true rfl) dX6_endHour_1 (Nat.le_of_ble_eq_true rfl) (Nat.le_of_ble_eq_true rfl)) [0, 1, 2, 3, 5, 6] [4, 7, 8] rfl rfl (by decide) (by decide) rfl rfl (fun u_2 h_3 => ?_)
  obtain ⟨o_4, o_5, o_6⟩ := u_2
  obtain ⟨e_7, e_8, e_9⟩ : o_4 = f_X6_recordHour_o4_3 go gn ∧ o_5 = f_X6_recordHour_o4_4 gn ∧ o_6 = f_X6_recordHour_o5 tm um ua uwn uwd uwp uwt uln uld ulp ult go gn gf := h_3
  refine sw_eq (ws' := [(a13, .inr (2, [.long ym, .long yf, .int yh])), (a15, .inr (4, [.int 5, .int 4, .ref a18, .int ko, .int kn])), (a18, .inl (G.2.1.2, 20, .inr (.inl kf))), (h0, .inr (6, [.int tm, .int ch, .ref a1, .ref a2, .ref a3, .ref a4, .int rg, .int hd, .int df, .ref a5, .ref a8, .long fl, .long ms, .long vo, .ref a9, .ref a10, .ref a13, .ref a14, .ref a15, .ref a16])), (a10, .inr (5, [.long um, .int ua, .ref a11, .ref a12])), (a11, .inr (7, [.int uwn, .long uwd, .long uwp, .long uwt])), (a12, .inr (7, [.int uln, .long uld, .long ulp, .long ult])), (a14, .inr (4, [.int 24, .int 7, .ref a17, .int o_4, .int o_5])), (a17, .inl (G.2.1.2, 168, .inr (.inl o_6)))]) (lv' := [(0, .ref h0)]) (st' := []) rfl rfl rfl ?_
  refine sw_aload_n (pc := 4) F dX6_endHour_4 rfl 0 rfl ?_
  refine sw_get (pc := 5) (Cn := RX6) (T := TX6) (N := 20) (ci := 6) (v := .ref a13) F in6 3 rfl rfl 16 (by decide) rfl (List.mem_of_getElem? (i := 1) rfl) rfl dX6_endHour_5 ?_
  refine sw_aload_n (pc := 8) F dX6_endHour_8 rfl 0 rfl ?_
  refine sw_get (pc := 9) (Cn := RX6) (T := TX6) (N := 20) (ci := 6) (v := .ref a10) F in6 3 rfl rfl 15 (by decide) rfl (List.mem_of_getElem? (i := 2) rfl) rfl dX6_endHour_9 ?_
  refine sw_callv (pc := 12) (wr := [(a15, .inr (4, [.int 5, .int 4, .ref a18, .int ko, .int kn])), (a18, .inl (G.2.1.2, 20, .inr (.inl kf))), (h0, .inr (6, [.int tm, .int ch, .ref a1, .ref a2, .ref a3, .ref a4, .int rg, .int hd, .int df, .ref a5, .ref a8, .long fl, .long ms, .long vo, .ref a9, .ref a10, .ref a13, .ref a14, .ref a15, .ref a16])), (a14, .inr (4, [.int 24, .int 7, .ref a17, .int o_4, .int o_5])), (a17, .inl (G.2.1.2, 168, .inr (.inl o_6)))]) (k' := 0) (n' := 0) F (sw_runV (R := ({ frames := 3, cells := 0, slots := 0, locals := 68 } : Room)) (q0 := 0) (na := 1) F T.2.1 T.2.2.1 (k_X2_add l G a13 a10 a11 a12 ym yf yh um ua uwn uwd uwp uwt uln uld ulp ult) [0, 4, 5, 6] rfl (by decide) gX6_endHour_X2_add rfl rfl rfl (by decide +kernel) ⟨Nat.le_of_ble_eq_true rfl, Nat.le_of_ble_eq_true rfl⟩ rfl rfl rfl rfl rfl (Nat.le_of_ble_eq_true rfl) dX6_endHour_12 (Nat.le_of_ble_eq_true rfl) (Nat.le_of_ble_eq_true rfl)) [0, 4, 5, 6] [1, 2, 3, 7, 8] rfl rfl (by decide) (by decide) rfl rfl (fun u_11 h_12 => ?_)
  obtain ⟨o_13, o_14, o_15⟩ := u_11
  obtain ⟨e_16, e_17, e_18⟩ : o_13 = f_X2_add_o0_0 ym um ∧ o_14 = f_X2_add_o0_1 yf uwn ∧ o_15 = f_X2_add_o0_2 yh := h_12
  refine sw_eq (ws' := [(a15, .inr (4, [.int 5, .int 4, .ref a18, .int ko, .int kn])), (a18, .inl (G.2.1.2, 20, .inr (.inl kf))), (h0, .inr (6, [.int tm, .int ch, .ref a1, .ref a2, .ref a3, .ref a4, .int rg, .int hd, .int df, .ref a5, .ref a8, .long fl, .long ms, .long vo, .ref a9, .ref a10, .ref a13, .ref a14, .ref a15, .ref a16])), (a14, .inr (4, [.int 24, .int 7, .ref a17, .int o_4, .int o_5])), (a17, .inl (G.2.1.2, 168, .inr (.inl o_6))), (a13, .inr (2, [.long o_13, .long o_14, .int o_15])), (a10, .inr (5, [.long um, .int ua, .ref a11, .ref a12])), (a11, .inr (7, [.int uwn, .long uwd, .long uwp, .long uwt])), (a12, .inr (7, [.int uln, .long uld, .long ulp, .long ult]))]) (lv' := [(0, .ref h0)]) (st' := []) rfl rfl rfl ?_
  refine sw_aload_n (pc := 15) F dX6_endHour_15 rfl 0 rfl ?_
  refine sw_get (pc := 16) (Cn := RX6) (T := TX6) (N := 20) (ci := 6) (v := .ref a10) F in6 2 rfl rfl 15 (by decide) rfl (List.mem_of_getElem? (i := 2) rfl) rfl dX6_endHour_16 ?_
  refine sw_callv (pc := 19) (wr := [(a15, .inr (4, [.int 5, .int 4, .ref a18, .int ko, .int kn])), (a18, .inl (G.2.1.2, 20, .inr (.inl kf))), (h0, .inr (6, [.int tm, .int ch, .ref a1, .ref a2, .ref a3, .ref a4, .int rg, .int hd, .int df, .ref a5, .ref a8, .long fl, .long ms, .long vo, .ref a9, .ref a10, .ref a13, .ref a14, .ref a15, .ref a16])), (a14, .inr (4, [.int 24, .int 7, .ref a17, .int o_4, .int o_5])), (a17, .inl (G.2.1.2, 168, .inr (.inl o_6))), (a13, .inr (2, [.long o_13, .long o_14, .int o_15]))]) (k' := 0) (n' := 0) F (sw_runV (R := ({ frames := 3, cells := 0, slots := 0, locals := 68 } : Room)) (q0 := 0) (na := 0) F T.2.1 T.2.2.1 (k_X5_clear l G a10 a11 a12 um ua uwn uwd uwp uwt uln uld ulp ult) [6, 7, 8] rfl (by decide) gX6_endHour_X5_clear rfl rfl rfl (by decide +kernel) ⟨Nat.le_of_ble_eq_true rfl, Nat.le_of_ble_eq_true rfl⟩ rfl rfl rfl rfl rfl (Nat.le_of_ble_eq_true rfl) dX6_endHour_19 (Nat.le_of_ble_eq_true rfl) (Nat.le_of_ble_eq_true rfl)) [6, 7, 8] [0, 1, 2, 3, 4, 5] rfl rfl (by decide) (by decide) rfl rfl (fun u_20 h_21 => ?_)
  refine sw_eq (ws' := [(a15, .inr (4, [.int 5, .int 4, .ref a18, .int ko, .int kn])), (a18, .inl (G.2.1.2, 20, .inr (.inl kf))), (h0, .inr (6, [.int tm, .int ch, .ref a1, .ref a2, .ref a3, .ref a4, .int rg, .int hd, .int df, .ref a5, .ref a8, .long fl, .long ms, .long vo, .ref a9, .ref a10, .ref a13, .ref a14, .ref a15, .ref a16])), (a14, .inr (4, [.int 24, .int 7, .ref a17, .int o_4, .int o_5])), (a17, .inl (G.2.1.2, 168, .inr (.inl o_6))), (a13, .inr (2, [.long o_13, .long o_14, .int o_15])), (a10, .inr (5, [.long 0, .int 0, .ref a11, .ref a12])), (a11, .inr (7, [.int 0, .long 0, .long 0, .long 0])), (a12, .inr (7, [.int 0, .long 0, .long 0, .long 0]))]) (lv' := [(0, .ref h0)]) (st' := []) rfl rfl rfl ?_
  refine sw_aload_n (pc := 22) F dX6_endHour_22 rfl 0 rfl ?_
  refine sw_get (pc := 23) (Cn := RX6) (T := TX6) (N := 20) (ci := 6) (v := .int tm) F in6 2 rfl rfl 0 (by decide) rfl (List.mem_of_getElem? (i := 3) rfl) rfl dX6_endHour_23 ?_
  refine sw_sipush (pc := 26) (v := 3600) F dX6_endHour_26 rfl ?_
  refine sw_idiv (pc := 29) F dX6_endHour_29 (by decide) ?_
  refine sw_topi (fun x_22 ex_22 => ?_)
  refine sw_bipush (pc := 30) (v := 24) F dX6_endHour_30 rfl ?_
  refine sw_irem (pc := 32) F dX6_endHour_32 (by decide) ?_
  refine sw_topi (fun x_23 ex_23 => ?_)
  refine sw_aload_n (pc := 33) F dX6_endHour_33 rfl 0 rfl ?_
  refine sw_get (pc := 34) (Cn := RX6) (T := TX6) (N := 20) (ci := 6) (v := .int ch) F in6 2 rfl rfl 1 (by decide) rfl (List.mem_of_getElem? (i := 4) rfl) rfl dX6_endHour_34 ?_
  refine sw_icmp_ne (pc := 37) (tgt := 51) F dX6_endHour_37 (by decide) (fun c_24 => ?_) (fun c_24 => ?_)
  · skip
    subst ex_23
    subst ex_22
    subst e_18
    subst e_17
    subst e_16
    subst e_9
    subst e_8
    subst e_7
    refine sw_perm (ws' := [(h0, .inr (6, [.int tm, .int ch, .ref a1, .ref a2, .ref a3, .ref a4, .int rg, .int hd, .int df, .ref a5, .ref a8, .long fl, .long ms, .long vo, .ref a9, .ref a10, .ref a13, .ref a14, .ref a15, .ref a16])), (a10, .inr (5, [.long 0, .int 0, .ref a11, .ref a12])), (a11, .inr (7, [.int 0, .long 0, .long 0, .long 0])), (a12, .inr (7, [.int 0, .long 0, .long 0, .long 0])), (a13, .inr (2, [.long ((f_X2_add_o0_0 ym um)), .long ((f_X2_add_o0_1 yf uwn)), .int ((f_X2_add_o0_2 yh))])), (a14, .inr (4, [.int 24, .int 7, .ref a17, .int ((f_X6_recordHour_o4_3 go gn)), .int ((f_X6_recordHour_o4_4 gn))])), (a17, .inl (G.2.1.2, 168, .inr (.inl ((f_X6_recordHour_o5 tm um ua uwn uwd uwp uwt uln uld ulp ult go gn gf))))), (a15, .inr (4, [.int 5, .int 4, .ref a18, .int ko, .int kn])), (a18, .inl (G.2.1.2, 20, .inr (.inl kf)))]) [2, 6, 7, 8, 5, 3, 4, 0, 1] (by decide) rfl ?_
    exact sw_vret (pc := 51) F T ((f_X2_add_o0_0 ym um), (f_X2_add_o0_1 yf uwn), (f_X2_add_o0_2 yh), (f_X6_recordHour_o4_3 go gn), (f_X6_recordHour_o4_4 gn), (f_X6_recordHour_o5 tm um ua uwn uwd uwp uwt uln uld ulp ult go gn gf), ko, kn, kf) ⟨(by unfold f_X6_endHour_o4_0; rw [if_neg c_24]), (by unfold f_X6_endHour_o4_1; rw [if_neg c_24]), (by unfold f_X6_endHour_o4_2; rw [if_neg c_24]), rfl, rfl, rfl, (by unfold f_X6_endHour_o7_3; rw [if_neg c_24]), (by unfold f_X6_endHour_o7_4; rw [if_neg c_24]), (by unfold f_X6_endHour_o8; rw [if_neg c_24])⟩ rfl dX6_endHour_51
  · skip
    refine sw_aload_n (pc := 40) F dX6_endHour_40 rfl 0 rfl ?_
    refine sw_callv (pc := 41) (wr := [(a14, .inr (4, [.int 24, .int 7, .ref a17, .int o_4, .int o_5])), (a17, .inl (G.2.1.2, 168, .inr (.inl o_6))), (a10, .inr (5, [.long 0, .int 0, .ref a11, .ref a12])), (a11, .inr (7, [.int 0, .long 0, .long 0, .long 0])), (a12, .inr (7, [.int 0, .long 0, .long 0, .long 0]))]) (k' := 0) (n' := 0) F (sw_runV (R := ({ frames := 3, cells := 0, slots := 0, locals := 68 } : Room)) (q0 := 0) (na := 0) F T.2.1 T.2.2.1 (k_X6_recordDay l G h0 a1 a2 a3 a4 a5 a8 a9 a10 a13 a14 a15 a16 a18 tm ch rg hd df fl ms vo o_13 o_14 o_15 ko kn kf) [2, 5, 0, 1] rfl (by decide) gX6_endHour_X6_recordDay rfl rfl rfl (by decide +kernel) ⟨Nat.le_of_ble_eq_true rfl, Nat.le_of_ble_eq_true rfl⟩ rfl rfl rfl rfl rfl (Nat.le_of_ble_eq_true rfl) dX6_endHour_41 (Nat.le_of_ble_eq_true rfl) (Nat.le_of_ble_eq_true rfl)) [2, 5, 0, 1] [3, 4, 6, 7, 8] rfl rfl (by decide) (by decide) rfl rfl (fun u_26 h_27 => ?_)
    obtain ⟨o_28, o_29, o_30⟩ := u_26
    obtain ⟨e_31, e_32, e_33⟩ : o_28 = f_X6_recordDay_o2_3 ko kn ∧ o_29 = f_X6_recordDay_o2_4 kn ∧ o_30 = f_X6_recordDay_o3 tm o_13 o_14 o_15 ko kn kf := h_27
    refine sw_eq (ws' := [(a14, .inr (4, [.int 24, .int 7, .ref a17, .int o_4, .int o_5])), (a17, .inl (G.2.1.2, 168, .inr (.inl o_6))), (a10, .inr (5, [.long 0, .int 0, .ref a11, .ref a12])), (a11, .inr (7, [.int 0, .long 0, .long 0, .long 0])), (a12, .inr (7, [.int 0, .long 0, .long 0, .long 0])), (h0, .inr (6, [.int tm, .int ch, .ref a1, .ref a2, .ref a3, .ref a4, .int rg, .int hd, .int df, .ref a5, .ref a8, .long fl, .long ms, .long vo, .ref a9, .ref a10, .ref a13, .ref a14, .ref a15, .ref a16])), (a13, .inr (2, [.long o_13, .long o_14, .int o_15])), (a15, .inr (4, [.int 5, .int 4, .ref a18, .int o_28, .int o_29])), (a18, .inl (G.2.1.2, 20, .inr (.inl o_30)))]) (lv' := [(0, .ref h0)]) (st' := []) rfl rfl rfl ?_
    refine sw_aload_n (pc := 44) F dX6_endHour_44 rfl 0 rfl ?_
    refine sw_get (pc := 45) (Cn := RX6) (T := TX6) (N := 20) (ci := 6) (v := .ref a13) F in6 5 rfl rfl 16 (by decide) rfl (List.mem_of_getElem? (i := 1) rfl) rfl dX6_endHour_45 ?_
    refine sw_callv (pc := 48) (wr := [(a14, .inr (4, [.int 24, .int 7, .ref a17, .int o_4, .int o_5])), (a17, .inl (G.2.1.2, 168, .inr (.inl o_6))), (a10, .inr (5, [.long 0, .int 0, .ref a11, .ref a12])), (a11, .inr (7, [.int 0, .long 0, .long 0, .long 0])), (a12, .inr (7, [.int 0, .long 0, .long 0, .long 0])), (h0, .inr (6, [.int tm, .int ch, .ref a1, .ref a2, .ref a3, .ref a4, .int rg, .int hd, .int df, .ref a5, .ref a8, .long fl, .long ms, .long vo, .ref a9, .ref a10, .ref a13, .ref a14, .ref a15, .ref a16])), (a15, .inr (4, [.int 5, .int 4, .ref a18, .int o_28, .int o_29])), (a18, .inl (G.2.1.2, 20, .inr (.inl o_30)))]) (k' := 0) (n' := 0) F (sw_runV (R := ({ frames := 3, cells := 0, slots := 0, locals := 68 } : Room)) (q0 := 0) (na := 0) F T.2.1 T.2.2.1 (k_X2_clear l G a13 o_13 o_14 o_15) [6] rfl (by decide) gX6_endHour_X2_clear rfl rfl rfl (by decide +kernel) ⟨Nat.le_of_ble_eq_true rfl, Nat.le_of_ble_eq_true rfl⟩ rfl rfl rfl rfl rfl (Nat.le_of_ble_eq_true rfl) dX6_endHour_48 (Nat.le_of_ble_eq_true rfl) (Nat.le_of_ble_eq_true rfl)) [6] [0, 1, 2, 3, 4, 5, 7, 8] rfl rfl (by decide) (by decide) rfl rfl (fun u_35 h_36 => ?_)
    refine sw_eq (ws' := [(a14, .inr (4, [.int 24, .int 7, .ref a17, .int o_4, .int o_5])), (a17, .inl (G.2.1.2, 168, .inr (.inl o_6))), (a10, .inr (5, [.long 0, .int 0, .ref a11, .ref a12])), (a11, .inr (7, [.int 0, .long 0, .long 0, .long 0])), (a12, .inr (7, [.int 0, .long 0, .long 0, .long 0])), (h0, .inr (6, [.int tm, .int ch, .ref a1, .ref a2, .ref a3, .ref a4, .int rg, .int hd, .int df, .ref a5, .ref a8, .long fl, .long ms, .long vo, .ref a9, .ref a10, .ref a13, .ref a14, .ref a15, .ref a16])), (a15, .inr (4, [.int 5, .int 4, .ref a18, .int o_28, .int o_29])), (a18, .inl (G.2.1.2, 20, .inr (.inl o_30))), (a13, .inr (2, [.long 0, .long 0, .int 0]))]) (lv' := [(0, .ref h0)]) (st' := []) rfl rfl rfl ?_
    subst e_33
    subst e_32
    subst e_31
    subst ex_23
    subst ex_22
    subst e_18
    subst e_17
    subst e_16
    subst e_9
    subst e_8
    subst e_7
    refine sw_perm (ws' := [(h0, .inr (6, [.int tm, .int ch, .ref a1, .ref a2, .ref a3, .ref a4, .int rg, .int hd, .int df, .ref a5, .ref a8, .long fl, .long ms, .long vo, .ref a9, .ref a10, .ref a13, .ref a14, .ref a15, .ref a16])), (a10, .inr (5, [.long 0, .int 0, .ref a11, .ref a12])), (a11, .inr (7, [.int 0, .long 0, .long 0, .long 0])), (a12, .inr (7, [.int 0, .long 0, .long 0, .long 0])), (a13, .inr (2, [.long 0, .long 0, .int 0])), (a14, .inr (4, [.int 24, .int 7, .ref a17, .int ((f_X6_recordHour_o4_3 go gn)), .int ((f_X6_recordHour_o4_4 gn))])), (a17, .inl (G.2.1.2, 168, .inr (.inl ((f_X6_recordHour_o5 tm um ua uwn uwd uwp uwt uln uld ulp ult go gn gf))))), (a15, .inr (4, [.int 5, .int 4, .ref a18, .int ((f_X6_recordDay_o2_3 ko kn)), .int ((f_X6_recordDay_o2_4 kn))])), (a18, .inl (G.2.1.2, 20, .inr (.inl ((f_X6_recordDay_o3 tm (f_X2_add_o0_0 ym um) (f_X2_add_o0_1 yf uwn) (f_X2_add_o0_2 yh) ko kn kf)))))]) [5, 2, 3, 4, 8, 0, 1, 6, 7] (by decide) rfl ?_
    exact sw_vret (pc := 51) F T (0, 0, 0, (f_X6_recordHour_o4_3 go gn), (f_X6_recordHour_o4_4 gn), (f_X6_recordHour_o5 tm um ua uwn uwd uwp uwt uln uld ulp ult go gn gf), (f_X6_recordDay_o2_3 ko kn), (f_X6_recordDay_o2_4 kn), (f_X6_recordDay_o3 tm (f_X2_add_o0_0 ym um) (f_X2_add_o0_1 yf uwn) (f_X2_add_o0_2 yh) ko kn kf)) ⟨(by unfold f_X6_endHour_o4_0; rw [if_pos c_24]), (by unfold f_X6_endHour_o4_1; rw [if_pos c_24]), (by unfold f_X6_endHour_o4_2; rw [if_pos c_24]), rfl, rfl, rfl, (by unfold f_X6_endHour_o7_3; rw [if_pos c_24]), (by unfold f_X6_endHour_o7_4; rw [if_pos c_24]), (by unfold f_X6_endHour_o8; rw [if_pos c_24])⟩ rfl dX6_endHour_51
def f_X6_presentDensity_r (vf : Int32) (wf : Int32) (pm : Int32) (pd : Nat → Int32) : Int64 := (f_X3_densityAt_r pm pd vf wf)
set_option maxHeartbeats 4000000 in
set_option maxRecDepth 100000 in
theorem k_X6_presentDensity (l : Launch) (G : sw_E) (h0 : Nat) (a1 : Nat) (a2 : Nat) (a3 : Nat) (a4 : Nat) (a5 : Nat) (a8 : Nat) (a9 : Nat) (a10 : Nat) (a13 : Nat) (a14 : Nat) (a15 : Nat) (a16 : Nat) (a6 : Nat) (a7 : Nat) (tm : Int32) (ch : Int32) (rg : Int32) (hd : Int32) (df : Int32) (fl : Int64) (ms : Int64) (vo : Int64) (vs : Int32) (vd : Int32) (vr : Int32) (vf : Int32) (vw : Int32) (ws : Int32) (wd : Int32) (wr : Int32) (wf : Int32) (ww : Int32) (pm : Int32) (pk : Int32) (pd : Nat → Int32) (pf : Nat → Int32) (hy : ¬ (101 * (if (1 : Int32) < (wf + 2731) then (wf + 2731) else 1).toInt64) = 0) : sw_M l G yX6_presentDensity wsX6_presentDensity ({ frames := 3, cells := 0, slots := 0, locals := 79 } : Room) [.ref h0] [(h0, .inr (6, [.int tm, .int ch, .ref a1, .ref a2, .ref a3, .ref a4, .int rg, .int hd, .int df, .ref a5, .ref a8, .long fl, .long ms, .long vo, .ref a9, .ref a10, .ref a13, .ref a14, .ref a15, .ref a16])), (a3, .inr (8, [.int 0, .int vs, .int vd, .int vr, .int vf, .int vw])), (a4, .inr (8, [.int ((-500)), .int ws, .int wd, .int wr, .int wf, .int ww])), (a5, .inr (3, [.int pm, .int pk, .ref a6, .ref a7])), (a6, .inl (G.2.1.1, 6, .inl pd)), (a7, .inl (G.2.1.1, 5, .inl pf))] (sw_QL G (S := Unit) (fun (r : Int64) (_ : Unit) => r = f_X6_presentDensity_r vf wf pm pd) (fun _ => [(h0, .inr (6, [.int tm, .int ch, .ref a1, .ref a2, .ref a3, .ref a4, .int rg, .int hd, .int df, .ref a5, .ref a8, .long fl, .long ms, .long vo, .ref a9, .ref a10, .ref a13, .ref a14, .ref a15, .ref a16])), (a3, .inr (8, [.int 0, .int vs, .int vd, .int vr, .int vf, .int vw])), (a4, .inr (8, [.int ((-500)), .int ws, .int wd, .int wr, .int wf, .int ww])), (a5, .inr (3, [.int pm, .int pk, .ref a6, .ref a7])), (a6, .inl (G.2.1.1, 6, .inl pd)), (a7, .inl (G.2.1.1, 5, .inl pf))])) 0 0 := by
  refine sw_start (cc := cX6_presentDensity) (maxL := 1) (ret := some .long) (lv := [(0, .ref h0)]) (own := RX6) (nm := "presentDensity") (by decide +kernel) rfl rfl rfl rfl (Nat.le_of_ble_eq_true rfl) (fun C F T => ?_)
  have in6 : ∀ w ∈ u_ws RX6 TX6 20, w ∈ wsX6_presentDensity := fun w h => List.mem_cons_of_mem _ (List.mem_append_left _ (List.mem_append_left _ (List.mem_append_right _ (h))))
  have in8 : ∀ w ∈ u_ws RX8 TX8 6, w ∈ wsX6_presentDensity := fun w h => List.mem_cons_of_mem _ (List.mem_append_left _ (List.mem_append_right _ (h)))
  refine sw_aload_n (pc := 0) F dX6_presentDensity_0 rfl 0 rfl ?_
  refine sw_get (pc := 1) (Cn := RX6) (T := TX6) (N := 20) (ci := 6) (v := .ref a5) F in6 0 rfl rfl 9 (by decide) rfl (List.mem_of_getElem? (i := 1) rfl) rfl dX6_presentDensity_1 ?_
  refine sw_aload_n (pc := 4) F dX6_presentDensity_4 rfl 0 rfl ?_
  refine sw_get (pc := 5) (Cn := RX6) (T := TX6) (N := 20) (ci := 6) (v := .ref a3) F in6 0 rfl rfl 4 (by decide) rfl (List.mem_of_getElem? (i := 2) rfl) rfl dX6_presentDensity_5 ?_
  refine sw_get (pc := 8) (Cn := RX8) (T := TX8) (N := 6) (ci := 8) (v := .int vf) F in8 1 rfl rfl 4 (by decide) rfl (List.mem_of_getElem? (i := 3) rfl) rfl dX6_presentDensity_8 ?_
  refine sw_aload_n (pc := 11) F dX6_presentDensity_11 rfl 0 rfl ?_
  refine sw_get (pc := 12) (Cn := RX6) (T := TX6) (N := 20) (ci := 6) (v := .ref a4) F in6 0 rfl rfl 5 (by decide) rfl (List.mem_of_getElem? (i := 4) rfl) rfl dX6_presentDensity_12 ?_
  refine sw_get (pc := 15) (Cn := RX8) (T := TX8) (N := 6) (ci := 8) (v := .int wf) F in8 2 rfl rfl 4 (by decide) rfl (List.mem_of_getElem? (i := 3) rfl) rfl dX6_presentDensity_15 ?_
  refine sw_calll (pc := 18) (wr := [(h0, .inr (6, [.int tm, .int ch, .ref a1, .ref a2, .ref a3, .ref a4, .int rg, .int hd, .int df, .ref a5, .ref a8, .long fl, .long ms, .long vo, .ref a9, .ref a10, .ref a13, .ref a14, .ref a15, .ref a16])), (a3, .inr (8, [.int 0, .int vs, .int vd, .int vr, .int vf, .int vw])), (a4, .inr (8, [.int ((-500)), .int ws, .int wd, .int wr, .int wf, .int ww]))]) (k' := 0) (n' := 0) F (sw_runV (R := ({ frames := 3, cells := 0, slots := 0, locals := 79 } : Room)) (q0 := 0) (na := 2) F T.2.1 T.2.2.1 (k_X3_densityAt l G a5 a6 a7 pm pk pd pf vf wf (by assumption)) [3, 4, 5] rfl (by decide) gX6_presentDensity_X3_densityAt rfl rfl rfl (by decide +kernel) ⟨Nat.le_of_ble_eq_true rfl, Nat.le_of_ble_eq_true rfl⟩ rfl rfl rfl rfl rfl (Nat.le_of_ble_eq_true rfl) dX6_presentDensity_18 (Nat.le_of_ble_eq_true rfl) (Nat.le_of_ble_eq_true rfl)) [3, 4, 5] [0, 1, 2] rfl rfl (by decide) (by decide) rfl rfl (fun r_1 u_2 h_3 => ?_)
  have e_4 : r_1 = f_X3_densityAt_r pm pd vf wf := h_3
  refine sw_eq (ws' := [(h0, .inr (6, [.int tm, .int ch, .ref a1, .ref a2, .ref a3, .ref a4, .int rg, .int hd, .int df, .ref a5, .ref a8, .long fl, .long ms, .long vo, .ref a9, .ref a10, .ref a13, .ref a14, .ref a15, .ref a16])), (a3, .inr (8, [.int 0, .int vs, .int vd, .int vr, .int vf, .int vw])), (a4, .inr (8, [.int ((-500)), .int ws, .int wd, .int wr, .int wf, .int ww])), (a5, .inr (3, [.int pm, .int pk, .ref a6, .ref a7])), (a6, .inl (G.2.1.1, 6, .inl pd)), (a7, .inl (G.2.1.1, 5, .inl pf))]) (lv' := [(0, .ref h0)]) (st' := [.long r_1]) rfl rfl rfl ?_
  subst e_4
  exact sw_lret (pc := 21) F T () rfl rfl dX6_presentDensity_21
def f_X6_totalOf_0_r (ms : Int64) : Int64 := ms
set_option maxHeartbeats 4000000 in
set_option maxRecDepth 100000 in
theorem k_X6_totalOf_0 (l : Launch) (G : sw_E) (h0 : Nat) (a1 : Nat) (a2 : Nat) (a3 : Nat) (a4 : Nat) (a5 : Nat) (a8 : Nat) (a9 : Nat) (a10 : Nat) (a13 : Nat) (a14 : Nat) (a15 : Nat) (a16 : Nat) (a11 : Nat) (a12 : Nat) (tm : Int32) (ch : Int32) (rg : Int32) (hd : Int32) (df : Int32) (fl : Int64) (ms : Int64) (vo : Int64) (bd : Int32) (bo : Int32) (bp : Int32) (bs : Int32) (bm : Int64) (bv : Int32) (um : Int64) (ua : Int32)  : sw_M l G yX6_totalOf wsX6_totalOf ({ frames := 0, cells := 0, slots := 0, locals := 0 } : Room) [.ref h0, .int 0] [(h0, .inr (6, [.int tm, .int ch, .ref a1, .ref a2, .ref a3, .ref a4, .int rg, .int hd, .int df, .ref a5, .ref a8, .long fl, .long ms, .long vo, .ref a9, .ref a10, .ref a13, .ref a14, .ref a15, .ref a16])), (a9, .inr (0, [.int bd, .int bo, .int bp, .int bs, .long bm, .int bv])), (a10, .inr (5, [.long um, .int ua, .ref a11, .ref a12]))] (sw_QL G (S := Unit) (fun (r : Int64) (_ : Unit) => r = f_X6_totalOf_0_r ms) (fun _ => [(h0, .inr (6, [.int tm, .int ch, .ref a1, .ref a2, .ref a3, .ref a4, .int rg, .int hd, .int df, .ref a5, .ref a8, .long fl, .long ms, .long vo, .ref a9, .ref a10, .ref a13, .ref a14, .ref a15, .ref a16])), (a9, .inr (0, [.int bd, .int bo, .int bp, .int bs, .long bm, .int bv])), (a10, .inr (5, [.long um, .int ua, .ref a11, .ref a12]))])) 0 0 := by
  refine sw_start (cc := cX6_totalOf) (maxL := 2) (ret := some .long) (lv := [(0, .ref h0), (1, .int 0)]) (own := RX6) (nm := "totalOf") (by decide +kernel) rfl rfl rfl rfl (Nat.le_of_ble_eq_true rfl) (fun C F T => ?_)
  have in6 : ∀ w ∈ u_ws RX6 TX6 20, w ∈ wsX6_totalOf := fun w h => List.mem_cons_of_mem _ (List.mem_append_left _ (List.mem_append_left _ (List.mem_append_right _ (h))))
  refine sw_iload_n (pc := 0) F dX6_totalOf_0 rfl 1 rfl ?_
  refine sw_tableIn (pc := 1) (tgt := 28) (off := 27) F dX6_totalOf_1 (by decide) (by decide) rfl (by decide) ?_
  refine sw_aload_n (pc := 28) F dX6_totalOf_28 rfl 0 rfl ?_
  refine sw_get (pc := 29) (Cn := RX6) (T := TX6) (N := 20) (ci := 6) (v := .long ms) F in6 0 rfl rfl 12 (by decide) rfl (List.mem_of_getElem? (i := 1) rfl) rfl dX6_totalOf_29 ?_
  exact sw_lret (pc := 32) F T () rfl rfl dX6_totalOf_32
def f_X6_totalOf_1_r (vo : Int64) : Int64 := vo
set_option maxHeartbeats 4000000 in
set_option maxRecDepth 100000 in
theorem k_X6_totalOf_1 (l : Launch) (G : sw_E) (h0 : Nat) (a1 : Nat) (a2 : Nat) (a3 : Nat) (a4 : Nat) (a5 : Nat) (a8 : Nat) (a9 : Nat) (a10 : Nat) (a13 : Nat) (a14 : Nat) (a15 : Nat) (a16 : Nat) (a11 : Nat) (a12 : Nat) (tm : Int32) (ch : Int32) (rg : Int32) (hd : Int32) (df : Int32) (fl : Int64) (ms : Int64) (vo : Int64) (bd : Int32) (bo : Int32) (bp : Int32) (bs : Int32) (bm : Int64) (bv : Int32) (um : Int64) (ua : Int32)  : sw_M l G yX6_totalOf wsX6_totalOf ({ frames := 0, cells := 0, slots := 0, locals := 0 } : Room) [.ref h0, .int 1] [(h0, .inr (6, [.int tm, .int ch, .ref a1, .ref a2, .ref a3, .ref a4, .int rg, .int hd, .int df, .ref a5, .ref a8, .long fl, .long ms, .long vo, .ref a9, .ref a10, .ref a13, .ref a14, .ref a15, .ref a16])), (a9, .inr (0, [.int bd, .int bo, .int bp, .int bs, .long bm, .int bv])), (a10, .inr (5, [.long um, .int ua, .ref a11, .ref a12]))] (sw_QL G (S := Unit) (fun (r : Int64) (_ : Unit) => r = f_X6_totalOf_1_r vo) (fun _ => [(h0, .inr (6, [.int tm, .int ch, .ref a1, .ref a2, .ref a3, .ref a4, .int rg, .int hd, .int df, .ref a5, .ref a8, .long fl, .long ms, .long vo, .ref a9, .ref a10, .ref a13, .ref a14, .ref a15, .ref a16])), (a9, .inr (0, [.int bd, .int bo, .int bp, .int bs, .long bm, .int bv])), (a10, .inr (5, [.long um, .int ua, .ref a11, .ref a12]))])) 0 0 := by
  refine sw_start (cc := cX6_totalOf) (maxL := 2) (ret := some .long) (lv := [(0, .ref h0), (1, .int 1)]) (own := RX6) (nm := "totalOf") (by decide +kernel) rfl rfl rfl rfl (Nat.le_of_ble_eq_true rfl) (fun C F T => ?_)
  have in6 : ∀ w ∈ u_ws RX6 TX6 20, w ∈ wsX6_totalOf := fun w h => List.mem_cons_of_mem _ (List.mem_append_left _ (List.mem_append_left _ (List.mem_append_right _ (h))))
  refine sw_iload_n (pc := 0) F dX6_totalOf_0 rfl 1 rfl ?_
  refine sw_tableIn (pc := 1) (tgt := 33) (off := 32) F dX6_totalOf_1 (by decide) (by decide) rfl (by decide) ?_
  refine sw_aload_n (pc := 33) F dX6_totalOf_33 rfl 0 rfl ?_
  refine sw_get (pc := 34) (Cn := RX6) (T := TX6) (N := 20) (ci := 6) (v := .long vo) F in6 0 rfl rfl 13 (by decide) rfl (List.mem_of_getElem? (i := 2) rfl) rfl dX6_totalOf_34 ?_
  exact sw_lret (pc := 37) F T () rfl rfl dX6_totalOf_37
def f_X6_totalOf_2_r (bm : Int64) : Int64 := bm
set_option maxHeartbeats 4000000 in
set_option maxRecDepth 100000 in
theorem k_X6_totalOf_2 (l : Launch) (G : sw_E) (h0 : Nat) (a1 : Nat) (a2 : Nat) (a3 : Nat) (a4 : Nat) (a5 : Nat) (a8 : Nat) (a9 : Nat) (a10 : Nat) (a13 : Nat) (a14 : Nat) (a15 : Nat) (a16 : Nat) (a11 : Nat) (a12 : Nat) (tm : Int32) (ch : Int32) (rg : Int32) (hd : Int32) (df : Int32) (fl : Int64) (ms : Int64) (vo : Int64) (bd : Int32) (bo : Int32) (bp : Int32) (bs : Int32) (bm : Int64) (bv : Int32) (um : Int64) (ua : Int32)  : sw_M l G yX6_totalOf wsX6_totalOf ({ frames := 0, cells := 0, slots := 0, locals := 0 } : Room) [.ref h0, .int 2] [(h0, .inr (6, [.int tm, .int ch, .ref a1, .ref a2, .ref a3, .ref a4, .int rg, .int hd, .int df, .ref a5, .ref a8, .long fl, .long ms, .long vo, .ref a9, .ref a10, .ref a13, .ref a14, .ref a15, .ref a16])), (a9, .inr (0, [.int bd, .int bo, .int bp, .int bs, .long bm, .int bv])), (a10, .inr (5, [.long um, .int ua, .ref a11, .ref a12]))] (sw_QL G (S := Unit) (fun (r : Int64) (_ : Unit) => r = f_X6_totalOf_2_r bm) (fun _ => [(h0, .inr (6, [.int tm, .int ch, .ref a1, .ref a2, .ref a3, .ref a4, .int rg, .int hd, .int df, .ref a5, .ref a8, .long fl, .long ms, .long vo, .ref a9, .ref a10, .ref a13, .ref a14, .ref a15, .ref a16])), (a9, .inr (0, [.int bd, .int bo, .int bp, .int bs, .long bm, .int bv])), (a10, .inr (5, [.long um, .int ua, .ref a11, .ref a12]))])) 0 0 := by
  refine sw_start (cc := cX6_totalOf) (maxL := 2) (ret := some .long) (lv := [(0, .ref h0), (1, .int 2)]) (own := RX6) (nm := "totalOf") (by decide +kernel) rfl rfl rfl rfl (Nat.le_of_ble_eq_true rfl) (fun C F T => ?_)
  have in0 : ∀ w ∈ u_ws RX0 TX0 6, w ∈ wsX6_totalOf := fun w h => List.mem_cons_of_mem _ (List.mem_append_left _ (List.mem_append_right _ (h)))
  have in6 : ∀ w ∈ u_ws RX6 TX6 20, w ∈ wsX6_totalOf := fun w h => List.mem_cons_of_mem _ (List.mem_append_left _ (List.mem_append_left _ (List.mem_append_right _ (h))))
  refine sw_iload_n (pc := 0) F dX6_totalOf_0 rfl 1 rfl ?_
  refine sw_tableIn (pc := 1) (tgt := 38) (off := 37) F dX6_totalOf_1 (by decide) (by decide) rfl (by decide) ?_
  refine sw_aload_n (pc := 38) F dX6_totalOf_38 rfl 0 rfl ?_
  refine sw_get (pc := 39) (Cn := RX6) (T := TX6) (N := 20) (ci := 6) (v := .ref a9) F in6 0 rfl rfl 14 (by decide) rfl (List.mem_of_getElem? (i := 3) rfl) rfl dX6_totalOf_39 ?_
  refine sw_get (pc := 42) (Cn := RX0) (T := TX0) (N := 6) (ci := 0) (v := .long bm) F in0 1 rfl rfl 4 (by decide) rfl (List.mem_of_getElem? (i := 4) rfl) rfl dX6_totalOf_42 ?_
  exact sw_lret (pc := 45) F T () rfl rfl dX6_totalOf_45
def f_X6_totalOf_3_r (um : Int64) : Int64 := um
set_option maxHeartbeats 4000000 in
set_option maxRecDepth 100000 in
theorem k_X6_totalOf_3 (l : Launch) (G : sw_E) (h0 : Nat) (a1 : Nat) (a2 : Nat) (a3 : Nat) (a4 : Nat) (a5 : Nat) (a8 : Nat) (a9 : Nat) (a10 : Nat) (a13 : Nat) (a14 : Nat) (a15 : Nat) (a16 : Nat) (a11 : Nat) (a12 : Nat) (tm : Int32) (ch : Int32) (rg : Int32) (hd : Int32) (df : Int32) (fl : Int64) (ms : Int64) (vo : Int64) (bd : Int32) (bo : Int32) (bp : Int32) (bs : Int32) (bm : Int64) (bv : Int32) (um : Int64) (ua : Int32)  : sw_M l G yX6_totalOf wsX6_totalOf ({ frames := 0, cells := 0, slots := 0, locals := 0 } : Room) [.ref h0, .int 3] [(h0, .inr (6, [.int tm, .int ch, .ref a1, .ref a2, .ref a3, .ref a4, .int rg, .int hd, .int df, .ref a5, .ref a8, .long fl, .long ms, .long vo, .ref a9, .ref a10, .ref a13, .ref a14, .ref a15, .ref a16])), (a9, .inr (0, [.int bd, .int bo, .int bp, .int bs, .long bm, .int bv])), (a10, .inr (5, [.long um, .int ua, .ref a11, .ref a12]))] (sw_QL G (S := Unit) (fun (r : Int64) (_ : Unit) => r = f_X6_totalOf_3_r um) (fun _ => [(h0, .inr (6, [.int tm, .int ch, .ref a1, .ref a2, .ref a3, .ref a4, .int rg, .int hd, .int df, .ref a5, .ref a8, .long fl, .long ms, .long vo, .ref a9, .ref a10, .ref a13, .ref a14, .ref a15, .ref a16])), (a9, .inr (0, [.int bd, .int bo, .int bp, .int bs, .long bm, .int bv])), (a10, .inr (5, [.long um, .int ua, .ref a11, .ref a12]))])) 0 0 := by
  refine sw_start (cc := cX6_totalOf) (maxL := 2) (ret := some .long) (lv := [(0, .ref h0), (1, .int 3)]) (own := RX6) (nm := "totalOf") (by decide +kernel) rfl rfl rfl rfl (Nat.le_of_ble_eq_true rfl) (fun C F T => ?_)
  have in5 : ∀ w ∈ u_ws RX5 TX5 4, w ∈ wsX6_totalOf := fun w h => List.mem_cons_of_mem _ (List.mem_append_right _ (h))
  have in6 : ∀ w ∈ u_ws RX6 TX6 20, w ∈ wsX6_totalOf := fun w h => List.mem_cons_of_mem _ (List.mem_append_left _ (List.mem_append_left _ (List.mem_append_right _ (h))))
  refine sw_iload_n (pc := 0) F dX6_totalOf_0 rfl 1 rfl ?_
  refine sw_tableOut (pc := 1) (tgt := 46) F dX6_totalOf_1 (by decide) (by decide) ?_
  refine sw_aload_n (pc := 46) F dX6_totalOf_46 rfl 0 rfl ?_
  refine sw_get (pc := 47) (Cn := RX6) (T := TX6) (N := 20) (ci := 6) (v := .ref a10) F in6 0 rfl rfl 15 (by decide) rfl (List.mem_of_getElem? (i := 5) rfl) rfl dX6_totalOf_47 ?_
  refine sw_get (pc := 50) (Cn := RX5) (T := TX5) (N := 4) (ci := 5) (v := .long um) F in5 2 rfl rfl 0 (by decide) rfl (List.mem_of_getElem? (i := 6) rfl) rfl dX6_totalOf_50 ?_
  exact sw_lret (pc := 53) F T () rfl rfl dX6_totalOf_53
