def f_X10_range_r (S : Nat → Int64) : Int32 := (f_X10_tells_r (S 37))
set_option maxHeartbeats 4000000 in
set_option maxRecDepth 100000 in
theorem k_X10_range (l : Launch) (G : sw_E) (h0 : Nat) (b0 : Nat) (b1 : Nat) (np : Int32) (th : Int32) (hh : Int64) (S : Nat → Int64) (P : Nat → Int64)  : sw_M l G yX10_range wsX10_range ({ frames := 1, cells := 0, slots := 0, locals := 22 } : Room) [.ref h0] [(h0, .inr (10, [.ref b0, .ref b1, .int np, .int th, .long hh])), (b0, .inl (G.2.1.2, 344, .inr (.inl S))), (b1, .inl (G.2.1.2, 1032, .inr (.inl P)))] (sw_QI G (S := Unit) (fun (r : Int32) (_ : Unit) => r = f_X10_range_r S) (fun _ => [(h0, .inr (10, [.ref b0, .ref b1, .int np, .int 0, .long hh])), (b0, .inl (G.2.1.2, 344, .inr (.inl S))), (b1, .inl (G.2.1.2, 1032, .inr (.inl P)))])) 0 0 := by
  refine sw_start (cc := cX10_range) (maxL := 1) (ret := some .int) (lv := [(0, .ref h0)]) (own := RX10) (nm := "range") (by decide +kernel) rfl rfl rfl rfl (Nat.le_of_ble_eq_true rfl) (fun C F T => ?_)
  have in10 : ∀ w ∈ u_ws RX10 TX10 5, w ∈ wsX10_range := fun w h => List.mem_cons_of_mem _ (List.mem_append_right _ (h))
  refine sw_aload_n (pc := 0) F dX10_range_0 rfl 0 rfl ?_
  refine sw_aload_n (pc := 1) F dX10_range_1 rfl 0 rfl ?_
  refine sw_get (pc := 2) (Cn := RX10) (T := TX10) (N := 5) (ci := 10) (v := .ref b0) F in10 0 rfl rfl 0 (by decide) rfl (List.mem_of_getElem? (i := 1) rfl) rfl dX10_range_2 ?_
  refine sw_bipush (pc := 5) (v := 37) F dX10_range_5 rfl ?_
  refine sw_lald (pc := 7) F 1 rfl (sw_in rfl) dX10_range_7 ?_
  refine sw_naml (e := S 37) rfl (fun x_1 ex_1 => ?_)
  refine sw_calli (pc := 8) (wr := []) (k' := 0) (n' := 0) F (sw_runV (R := ({ frames := 1, cells := 0, slots := 0, locals := 22 } : Room)) (q0 := 0) (na := 1) F T.2.1 T.2.2.1 (k_X10_tells l G h0 b0 b1 np th hh S P x_1) [0, 1, 2] rfl (by decide) gX10_range_X10_tells rfl rfl rfl (by decide +kernel) ⟨Nat.le_of_ble_eq_true rfl, Nat.le_of_ble_eq_true rfl⟩ rfl rfl rfl rfl rfl (Nat.le_of_ble_eq_true rfl) dX10_range_8 (Nat.le_of_ble_eq_true rfl) (Nat.le_of_ble_eq_true rfl)) [0, 1, 2] [] rfl rfl (by decide) (by decide) rfl rfl (fun r_2 u_3 h_4 => ?_)
  have e_5 : r_2 = f_X10_tells_r x_1 := h_4
  refine sw_eq (ws' := [(h0, .inr (10, [.ref b0, .ref b1, .int np, .int 0, .long hh])), (b0, .inl (G.2.1.2, 344, .inr (.inl S))), (b1, .inl (G.2.1.2, 1032, .inr (.inl P)))]) (lv' := [(0, .ref h0)]) (st' := [.int r_2]) rfl rfl rfl ?_
  subst e_5
  subst ex_1
  exact sw_iret (pc := 11) F T rfl rfl () rfl rfl dX10_range_11
def f_X10_differential_r (S : Nat → Int64) : Int32 := (f_X10_tells_r (S 39))
set_option maxHeartbeats 4000000 in
set_option maxRecDepth 100000 in
theorem k_X10_differential (l : Launch) (G : sw_E) (h0 : Nat) (b0 : Nat) (b1 : Nat) (np : Int32) (th : Int32) (hh : Int64) (S : Nat → Int64) (P : Nat → Int64)  : sw_M l G yX10_differential wsX10_differential ({ frames := 1, cells := 0, slots := 0, locals := 22 } : Room) [.ref h0] [(h0, .inr (10, [.ref b0, .ref b1, .int np, .int th, .long hh])), (b0, .inl (G.2.1.2, 344, .inr (.inl S))), (b1, .inl (G.2.1.2, 1032, .inr (.inl P)))] (sw_QI G (S := Unit) (fun (r : Int32) (_ : Unit) => r = f_X10_differential_r S) (fun _ => [(h0, .inr (10, [.ref b0, .ref b1, .int np, .int 0, .long hh])), (b0, .inl (G.2.1.2, 344, .inr (.inl S))), (b1, .inl (G.2.1.2, 1032, .inr (.inl P)))])) 0 0 := by
  refine sw_start (cc := cX10_differential) (maxL := 1) (ret := some .int) (lv := [(0, .ref h0)]) (own := RX10) (nm := "differential") (by decide +kernel) rfl rfl rfl rfl (Nat.le_of_ble_eq_true rfl) (fun C F T => ?_)
  have in10 : ∀ w ∈ u_ws RX10 TX10 5, w ∈ wsX10_differential := fun w h => List.mem_cons_of_mem _ (List.mem_append_right _ (h))
  refine sw_aload_n (pc := 0) F dX10_differential_0 rfl 0 rfl ?_
  refine sw_aload_n (pc := 1) F dX10_differential_1 rfl 0 rfl ?_
  refine sw_get (pc := 2) (Cn := RX10) (T := TX10) (N := 5) (ci := 10) (v := .ref b0) F in10 0 rfl rfl 0 (by decide) rfl (List.mem_of_getElem? (i := 1) rfl) rfl dX10_differential_2 ?_
  refine sw_bipush (pc := 5) (v := 39) F dX10_differential_5 rfl ?_
  refine sw_lald (pc := 7) F 1 rfl (sw_in rfl) dX10_differential_7 ?_
  refine sw_naml (e := S 39) rfl (fun x_1 ex_1 => ?_)
  refine sw_calli (pc := 8) (wr := []) (k' := 0) (n' := 0) F (sw_runV (R := ({ frames := 1, cells := 0, slots := 0, locals := 22 } : Room)) (q0 := 0) (na := 1) F T.2.1 T.2.2.1 (k_X10_tells l G h0 b0 b1 np th hh S P x_1) [0, 1, 2] rfl (by decide) gX10_differential_X10_tells rfl rfl rfl (by decide +kernel) ⟨Nat.le_of_ble_eq_true rfl, Nat.le_of_ble_eq_true rfl⟩ rfl rfl rfl rfl rfl (Nat.le_of_ble_eq_true rfl) dX10_differential_8 (Nat.le_of_ble_eq_true rfl) (Nat.le_of_ble_eq_true rfl)) [0, 1, 2] [] rfl rfl (by decide) (by decide) rfl rfl (fun r_2 u_3 h_4 => ?_)
  have e_5 : r_2 = f_X10_tells_r x_1 := h_4
  refine sw_eq (ws' := [(h0, .inr (10, [.ref b0, .ref b1, .int np, .int 0, .long hh])), (b0, .inl (G.2.1.2, 344, .inr (.inl S))), (b1, .inl (G.2.1.2, 1032, .inr (.inl P)))]) (lv' := [(0, .ref h0)]) (st' := [.int r_2]) rfl rfl rfl ?_
  subst e_5
  subst ex_1
  exact sw_iret (pc := 11) F T rfl rfl () rfl rfl dX10_differential_11
def f_X10_flow_r (S : Nat → Int64) : Int64 := (S 40)
set_option maxHeartbeats 4000000 in
set_option maxRecDepth 100000 in
theorem k_X10_flow (l : Launch) (G : sw_E) (h0 : Nat) (b0 : Nat) (b1 : Nat) (np : Int32) (th : Int32) (hh : Int64) (S : Nat → Int64) (P : Nat → Int64)  : sw_M l G yX10_flow wsX10_flow ({ frames := 0, cells := 0, slots := 0, locals := 0 } : Room) [.ref h0] [(h0, .inr (10, [.ref b0, .ref b1, .int np, .int th, .long hh])), (b0, .inl (G.2.1.2, 344, .inr (.inl S))), (b1, .inl (G.2.1.2, 1032, .inr (.inl P)))] (sw_QL G (S := Unit) (fun (r : Int64) (_ : Unit) => r = f_X10_flow_r S) (fun _ => [(h0, .inr (10, [.ref b0, .ref b1, .int np, .int 0, .long hh])), (b0, .inl (G.2.1.2, 344, .inr (.inl S))), (b1, .inl (G.2.1.2, 1032, .inr (.inl P)))])) 0 0 := by
  refine sw_start (cc := cX10_flow) (maxL := 1) (ret := some .long) (lv := [(0, .ref h0)]) (own := RX10) (nm := "flow") (by decide +kernel) rfl rfl rfl rfl (Nat.le_of_ble_eq_true rfl) (fun C F T => ?_)
  have in10 : ∀ w ∈ u_ws RX10 TX10 5, w ∈ wsX10_flow := fun w h => List.mem_cons_of_mem _ (List.mem_append_right _ (h))
  refine sw_aload_n (pc := 0) F dX10_flow_0 rfl 0 rfl ?_
  refine sw_iconst (pc := 1) (v := 0) F dX10_flow_1 rfl ?_
  refine sw_put (pc := 2) (Cn := RX10) (T := TX10) (N := 5) (ci := 10) (ty0 := tyX10) (ws' := [(h0, .inr (10, [.ref b0, .ref b1, .int np, .int 0, .long hh])), (b0, .inl (G.2.1.2, 344, .inr (.inl S))), (b1, .inl (G.2.1.2, 1032, .inr (.inl P)))]) F in10 tyX10_ok nmX10 0 rfl rfl 3 (by decide) rfl (List.mem_of_getElem? (i := 1) rfl) rfl rfl rfl (Nat.le_of_ble_eq_true rfl) dX10_flow_2 rfl ?_
  refine sw_aload_n (pc := 5) F dX10_flow_5 rfl 0 rfl ?_
  refine sw_get (pc := 6) (Cn := RX10) (T := TX10) (N := 5) (ci := 10) (v := .ref b0) F in10 0 rfl rfl 0 (by decide) rfl (List.mem_of_getElem? (i := 2) rfl) rfl dX10_flow_6 ?_
  refine sw_bipush (pc := 9) (v := 40) F dX10_flow_9 rfl ?_
  refine sw_lald (pc := 11) F 1 rfl (sw_in rfl) dX10_flow_11 ?_
  refine sw_naml (e := S 40) rfl (fun x_1 ex_1 => ?_)
  subst ex_1
  exact sw_lret (pc := 12) F T () rfl rfl dX10_flow_12
def f_X10_valve_r (S : Nat → Int64) : Int32 := (f_X10_tells_r (S 49))
set_option maxHeartbeats 4000000 in
set_option maxRecDepth 100000 in
theorem k_X10_valve (l : Launch) (G : sw_E) (h0 : Nat) (b0 : Nat) (b1 : Nat) (np : Int32) (th : Int32) (hh : Int64) (S : Nat → Int64) (P : Nat → Int64)  : sw_M l G yX10_valve wsX10_valve ({ frames := 1, cells := 0, slots := 0, locals := 22 } : Room) [.ref h0] [(h0, .inr (10, [.ref b0, .ref b1, .int np, .int th, .long hh])), (b0, .inl (G.2.1.2, 344, .inr (.inl S))), (b1, .inl (G.2.1.2, 1032, .inr (.inl P)))] (sw_QI G (S := Unit) (fun (r : Int32) (_ : Unit) => r = f_X10_valve_r S) (fun _ => [(h0, .inr (10, [.ref b0, .ref b1, .int np, .int 0, .long hh])), (b0, .inl (G.2.1.2, 344, .inr (.inl S))), (b1, .inl (G.2.1.2, 1032, .inr (.inl P)))])) 0 0 := by
  refine sw_start (cc := cX10_valve) (maxL := 1) (ret := some .int) (lv := [(0, .ref h0)]) (own := RX10) (nm := "valve") (by decide +kernel) rfl rfl rfl rfl (Nat.le_of_ble_eq_true rfl) (fun C F T => ?_)
  have in10 : ∀ w ∈ u_ws RX10 TX10 5, w ∈ wsX10_valve := fun w h => List.mem_cons_of_mem _ (List.mem_append_right _ (h))
  refine sw_aload_n (pc := 0) F dX10_valve_0 rfl 0 rfl ?_
  refine sw_aload_n (pc := 1) F dX10_valve_1 rfl 0 rfl ?_
  refine sw_get (pc := 2) (Cn := RX10) (T := TX10) (N := 5) (ci := 10) (v := .ref b0) F in10 0 rfl rfl 0 (by decide) rfl (List.mem_of_getElem? (i := 1) rfl) rfl dX10_valve_2 ?_
  refine sw_bipush (pc := 5) (v := 49) F dX10_valve_5 rfl ?_
  refine sw_lald (pc := 7) F 1 rfl (sw_in rfl) dX10_valve_7 ?_
  refine sw_naml (e := S 49) rfl (fun x_1 ex_1 => ?_)
  refine sw_calli (pc := 8) (wr := []) (k' := 0) (n' := 0) F (sw_runV (R := ({ frames := 1, cells := 0, slots := 0, locals := 22 } : Room)) (q0 := 0) (na := 1) F T.2.1 T.2.2.1 (k_X10_tells l G h0 b0 b1 np th hh S P x_1) [0, 1, 2] rfl (by decide) gX10_valve_X10_tells rfl rfl rfl (by decide +kernel) ⟨Nat.le_of_ble_eq_true rfl, Nat.le_of_ble_eq_true rfl⟩ rfl rfl rfl rfl rfl (Nat.le_of_ble_eq_true rfl) dX10_valve_8 (Nat.le_of_ble_eq_true rfl) (Nat.le_of_ble_eq_true rfl)) [0, 1, 2] [] rfl rfl (by decide) (by decide) rfl rfl (fun r_2 u_3 h_4 => ?_)
  have e_5 : r_2 = f_X10_tells_r x_1 := h_4
  refine sw_eq (ws' := [(h0, .inr (10, [.ref b0, .ref b1, .int np, .int 0, .long hh])), (b0, .inl (G.2.1.2, 344, .inr (.inl S))), (b1, .inl (G.2.1.2, 1032, .inr (.inl P)))]) (lv' := [(0, .ref h0)]) (st' := [.int r_2]) rfl rfl rfl ?_
  subst e_5
  subst ex_1
  exact sw_iret (pc := 11) F T rfl rfl () rfl rfl dX10_valve_11
def f_X10_hours_r (S : Nat → Int64) : Int32 := (f_X10_tells_r (S 63))
set_option maxHeartbeats 4000000 in
set_option maxRecDepth 100000 in
theorem k_X10_hours (l : Launch) (G : sw_E) (h0 : Nat) (b0 : Nat) (b1 : Nat) (np : Int32) (th : Int32) (hh : Int64) (S : Nat → Int64) (P : Nat → Int64)  : sw_M l G yX10_hours wsX10_hours ({ frames := 1, cells := 0, slots := 0, locals := 22 } : Room) [.ref h0] [(h0, .inr (10, [.ref b0, .ref b1, .int np, .int th, .long hh])), (b0, .inl (G.2.1.2, 344, .inr (.inl S))), (b1, .inl (G.2.1.2, 1032, .inr (.inl P)))] (sw_QI G (S := Unit) (fun (r : Int32) (_ : Unit) => r = f_X10_hours_r S) (fun _ => [(h0, .inr (10, [.ref b0, .ref b1, .int np, .int 0, .long hh])), (b0, .inl (G.2.1.2, 344, .inr (.inl S))), (b1, .inl (G.2.1.2, 1032, .inr (.inl P)))])) 0 0 := by
  refine sw_start (cc := cX10_hours) (maxL := 1) (ret := some .int) (lv := [(0, .ref h0)]) (own := RX10) (nm := "hours") (by decide +kernel) rfl rfl rfl rfl (Nat.le_of_ble_eq_true rfl) (fun C F T => ?_)
  have in10 : ∀ w ∈ u_ws RX10 TX10 5, w ∈ wsX10_hours := fun w h => List.mem_cons_of_mem _ (List.mem_append_right _ (h))
  refine sw_aload_n (pc := 0) F dX10_hours_0 rfl 0 rfl ?_
  refine sw_aload_n (pc := 1) F dX10_hours_1 rfl 0 rfl ?_
  refine sw_get (pc := 2) (Cn := RX10) (T := TX10) (N := 5) (ci := 10) (v := .ref b0) F in10 0 rfl rfl 0 (by decide) rfl (List.mem_of_getElem? (i := 1) rfl) rfl dX10_hours_2 ?_
  refine sw_bipush (pc := 5) (v := 63) F dX10_hours_5 rfl ?_
  refine sw_lald (pc := 7) F 1 rfl (sw_in rfl) dX10_hours_7 ?_
  refine sw_naml (e := S 63) rfl (fun x_1 ex_1 => ?_)
  refine sw_calli (pc := 8) (wr := []) (k' := 0) (n' := 0) F (sw_runV (R := ({ frames := 1, cells := 0, slots := 0, locals := 22 } : Room)) (q0 := 0) (na := 1) F T.2.1 T.2.2.1 (k_X10_tells l G h0 b0 b1 np th hh S P x_1) [0, 1, 2] rfl (by decide) gX10_hours_X10_tells rfl rfl rfl (by decide +kernel) ⟨Nat.le_of_ble_eq_true rfl, Nat.le_of_ble_eq_true rfl⟩ rfl rfl rfl rfl rfl (Nat.le_of_ble_eq_true rfl) dX10_hours_8 (Nat.le_of_ble_eq_true rfl) (Nat.le_of_ble_eq_true rfl)) [0, 1, 2] [] rfl rfl (by decide) (by decide) rfl rfl (fun r_2 u_3 h_4 => ?_)
  have e_5 : r_2 = f_X10_tells_r x_1 := h_4
  refine sw_eq (ws' := [(h0, .inr (10, [.ref b0, .ref b1, .int np, .int 0, .long hh])), (b0, .inl (G.2.1.2, 344, .inr (.inl S))), (b1, .inl (G.2.1.2, 1032, .inr (.inl P)))]) (lv' := [(0, .ref h0)]) (st' := [.int r_2]) rfl rfl rfl ?_
  subst e_5
  subst ex_1
  exact sw_iret (pc := 11) F T rfl rfl () rfl rfl dX10_hours_11
def f_X10_days_r (S : Nat → Int64) : Int32 := (f_X10_tells_r (S 232))
set_option maxHeartbeats 4000000 in
set_option maxRecDepth 100000 in
theorem k_X10_days (l : Launch) (G : sw_E) (h0 : Nat) (b0 : Nat) (b1 : Nat) (np : Int32) (th : Int32) (hh : Int64) (S : Nat → Int64) (P : Nat → Int64)  : sw_M l G yX10_days wsX10_days ({ frames := 1, cells := 0, slots := 0, locals := 22 } : Room) [.ref h0] [(h0, .inr (10, [.ref b0, .ref b1, .int np, .int th, .long hh])), (b0, .inl (G.2.1.2, 344, .inr (.inl S))), (b1, .inl (G.2.1.2, 1032, .inr (.inl P)))] (sw_QI G (S := Unit) (fun (r : Int32) (_ : Unit) => r = f_X10_days_r S) (fun _ => [(h0, .inr (10, [.ref b0, .ref b1, .int np, .int 0, .long hh])), (b0, .inl (G.2.1.2, 344, .inr (.inl S))), (b1, .inl (G.2.1.2, 1032, .inr (.inl P)))])) 0 0 := by
  refine sw_start (cc := cX10_days) (maxL := 1) (ret := some .int) (lv := [(0, .ref h0)]) (own := RX10) (nm := "days") (by decide +kernel) rfl rfl rfl rfl (Nat.le_of_ble_eq_true rfl) (fun C F T => ?_)
  have in10 : ∀ w ∈ u_ws RX10 TX10 5, w ∈ wsX10_days := fun w h => List.mem_cons_of_mem _ (List.mem_append_right _ (h))
  refine sw_aload_n (pc := 0) F dX10_days_0 rfl 0 rfl ?_
  refine sw_aload_n (pc := 1) F dX10_days_1 rfl 0 rfl ?_
  refine sw_get (pc := 2) (Cn := RX10) (T := TX10) (N := 5) (ci := 10) (v := .ref b0) F in10 0 rfl rfl 0 (by decide) rfl (List.mem_of_getElem? (i := 1) rfl) rfl dX10_days_2 ?_
  refine sw_sipush (pc := 5) (v := 232) F dX10_days_5 rfl ?_
  refine sw_lald (pc := 8) F 1 rfl (sw_in rfl) dX10_days_8 ?_
  refine sw_naml (e := S 232) rfl (fun x_1 ex_1 => ?_)
  refine sw_calli (pc := 9) (wr := []) (k' := 0) (n' := 0) F (sw_runV (R := ({ frames := 1, cells := 0, slots := 0, locals := 22 } : Room)) (q0 := 0) (na := 1) F T.2.1 T.2.2.1 (k_X10_tells l G h0 b0 b1 np th hh S P x_1) [0, 1, 2] rfl (by decide) gX10_days_X10_tells rfl rfl rfl (by decide +kernel) ⟨Nat.le_of_ble_eq_true rfl, Nat.le_of_ble_eq_true rfl⟩ rfl rfl rfl rfl rfl (Nat.le_of_ble_eq_true rfl) dX10_days_9 (Nat.le_of_ble_eq_true rfl) (Nat.le_of_ble_eq_true rfl)) [0, 1, 2] [] rfl rfl (by decide) (by decide) rfl rfl (fun r_2 u_3 h_4 => ?_)
  have e_5 : r_2 = f_X10_tells_r x_1 := h_4
  refine sw_eq (ws' := [(h0, .inr (10, [.ref b0, .ref b1, .int np, .int 0, .long hh])), (b0, .inl (G.2.1.2, 344, .inr (.inl S))), (b1, .inl (G.2.1.2, 1032, .inr (.inl P)))]) (lv' := [(0, .ref h0)]) (st' := [.int r_2]) rfl rfl rfl ?_
  subst e_5
  subst ex_1
  exact sw_iret (pc := 12) F T rfl rfl () rfl rfl dX10_days_12
def f_X10_events_r (S : Nat → Int64) : Int32 := (f_X10_tells_r (S 253))
set_option maxHeartbeats 4000000 in
set_option maxRecDepth 100000 in
theorem k_X10_events (l : Launch) (G : sw_E) (h0 : Nat) (b0 : Nat) (b1 : Nat) (np : Int32) (th : Int32) (hh : Int64) (S : Nat → Int64) (P : Nat → Int64)  : sw_M l G yX10_events wsX10_events ({ frames := 1, cells := 0, slots := 0, locals := 22 } : Room) [.ref h0] [(h0, .inr (10, [.ref b0, .ref b1, .int np, .int th, .long hh])), (b0, .inl (G.2.1.2, 344, .inr (.inl S))), (b1, .inl (G.2.1.2, 1032, .inr (.inl P)))] (sw_QI G (S := Unit) (fun (r : Int32) (_ : Unit) => r = f_X10_events_r S) (fun _ => [(h0, .inr (10, [.ref b0, .ref b1, .int np, .int 0, .long hh])), (b0, .inl (G.2.1.2, 344, .inr (.inl S))), (b1, .inl (G.2.1.2, 1032, .inr (.inl P)))])) 0 0 := by
  refine sw_start (cc := cX10_events) (maxL := 1) (ret := some .int) (lv := [(0, .ref h0)]) (own := RX10) (nm := "events") (by decide +kernel) rfl rfl rfl rfl (Nat.le_of_ble_eq_true rfl) (fun C F T => ?_)
  have in10 : ∀ w ∈ u_ws RX10 TX10 5, w ∈ wsX10_events := fun w h => List.mem_cons_of_mem _ (List.mem_append_right _ (h))
  refine sw_aload_n (pc := 0) F dX10_events_0 rfl 0 rfl ?_
  refine sw_aload_n (pc := 1) F dX10_events_1 rfl 0 rfl ?_
  refine sw_get (pc := 2) (Cn := RX10) (T := TX10) (N := 5) (ci := 10) (v := .ref b0) F in10 0 rfl rfl 0 (by decide) rfl (List.mem_of_getElem? (i := 1) rfl) rfl dX10_events_2 ?_
  refine sw_sipush (pc := 5) (v := 253) F dX10_events_5 rfl ?_
  refine sw_lald (pc := 8) F 1 rfl (sw_in rfl) dX10_events_8 ?_
  refine sw_naml (e := S 253) rfl (fun x_1 ex_1 => ?_)
  refine sw_calli (pc := 9) (wr := []) (k' := 0) (n' := 0) F (sw_runV (R := ({ frames := 1, cells := 0, slots := 0, locals := 22 } : Room)) (q0 := 0) (na := 1) F T.2.1 T.2.2.1 (k_X10_tells l G h0 b0 b1 np th hh S P x_1) [0, 1, 2] rfl (by decide) gX10_events_X10_tells rfl rfl rfl (by decide +kernel) ⟨Nat.le_of_ble_eq_true rfl, Nat.le_of_ble_eq_true rfl⟩ rfl rfl rfl rfl rfl (Nat.le_of_ble_eq_true rfl) dX10_events_9 (Nat.le_of_ble_eq_true rfl) (Nat.le_of_ble_eq_true rfl)) [0, 1, 2] [] rfl rfl (by decide) (by decide) rfl rfl (fun r_2 u_3 h_4 => ?_)
  have e_5 : r_2 = f_X10_tells_r x_1 := h_4
  refine sw_eq (ws' := [(h0, .inr (10, [.ref b0, .ref b1, .int np, .int 0, .long hh])), (b0, .inl (G.2.1.2, 344, .inr (.inl S))), (b1, .inl (G.2.1.2, 1032, .inr (.inl P)))]) (lv' := [(0, .ref h0)]) (st' := [.int r_2]) rfl rfl rfl ?_
  subst e_5
  subst ex_1
  exact sw_iret (pc := 12) F T rfl rfl () rfl rfl dX10_events_12
def f_X10_isFlowing_r (S : Nat → Int64) : Int32 := if (S 41) = 1 then (1) else (0)
set_option maxHeartbeats 4000000 in
set_option maxRecDepth 100000 in
theorem k_X10_isFlowing (l : Launch) (G : sw_E) (h0 : Nat) (b0 : Nat) (b1 : Nat) (np : Int32) (th : Int32) (hh : Int64) (S : Nat → Int64) (P : Nat → Int64)  : sw_M l G yX10_isFlowing wsX10_isFlowing ({ frames := 0, cells := 0, slots := 0, locals := 0 } : Room) [.ref h0] [(h0, .inr (10, [.ref b0, .ref b1, .int np, .int th, .long hh])), (b0, .inl (G.2.1.2, 344, .inr (.inl S))), (b1, .inl (G.2.1.2, 1032, .inr (.inl P)))] (sw_QI G (S := Unit) (fun (r : Int32) (_ : Unit) => r = f_X10_isFlowing_r S) (fun _ => [(h0, .inr (10, [.ref b0, .ref b1, .int np, .int 0, .long hh])), (b0, .inl (G.2.1.2, 344, .inr (.inl S))), (b1, .inl (G.2.1.2, 1032, .inr (.inl P)))])) 0 0 := by
  refine sw_start (cc := cX10_isFlowing) (maxL := 1) (ret := some .boolean) (lv := [(0, .ref h0)]) (own := RX10) (nm := "isFlowing") (by decide +kernel) rfl rfl rfl rfl (Nat.le_of_ble_eq_true rfl) (fun C F T => ?_)
  have in10 : ∀ w ∈ u_ws RX10 TX10 5, w ∈ wsX10_isFlowing := fun w h => List.mem_cons_of_mem _ (List.mem_append_right _ (h))
  refine sw_aload_n (pc := 0) F dX10_isFlowing_0 rfl 0 rfl ?_
  refine sw_iconst (pc := 1) (v := 0) F dX10_isFlowing_1 rfl ?_
  refine sw_put (pc := 2) (Cn := RX10) (T := TX10) (N := 5) (ci := 10) (ty0 := tyX10) (ws' := [(h0, .inr (10, [.ref b0, .ref b1, .int np, .int 0, .long hh])), (b0, .inl (G.2.1.2, 344, .inr (.inl S))), (b1, .inl (G.2.1.2, 1032, .inr (.inl P)))]) F in10 tyX10_ok nmX10 0 rfl rfl 3 (by decide) rfl (List.mem_of_getElem? (i := 1) rfl) rfl rfl rfl (Nat.le_of_ble_eq_true rfl) dX10_isFlowing_2 rfl ?_
  refine sw_aload_n (pc := 5) F dX10_isFlowing_5 rfl 0 rfl ?_
  refine sw_get (pc := 6) (Cn := RX10) (T := TX10) (N := 5) (ci := 10) (v := .ref b0) F in10 0 rfl rfl 0 (by decide) rfl (List.mem_of_getElem? (i := 2) rfl) rfl dX10_isFlowing_6 ?_
  refine sw_bipush (pc := 9) (v := 41) F dX10_isFlowing_9 rfl ?_
  refine sw_lald (pc := 11) F 1 rfl (sw_in rfl) dX10_isFlowing_11 ?_
  refine sw_naml (e := S 41) rfl (fun x_1 ex_1 => ?_)
  refine sw_lconst (pc := 12) (v := 1) F dX10_isFlowing_12 rfl ?_
  refine sw_lcmp_ne (pc := 13) (tgt := 21) F dX10_isFlowing_13 dX10_isFlowing_14 (by decide) (fun c_2 => ?_) (fun c_2 => ?_)
  · skip
    refine sw_iconst (pc := 21) (v := 0) F dX10_isFlowing_21 rfl ?_
    subst ex_1
    exact sw_iret (pc := 22) F T rfl rfl () (by unfold f_X10_isFlowing_r; rw [if_neg c_2]) rfl dX10_isFlowing_22
  · skip
    refine sw_iconst (pc := 17) (v := 1) F dX10_isFlowing_17 rfl ?_
    refine sw_goto (pc := 18) (tgt := 22) F dX10_isFlowing_18 (by decide) ?_
    subst ex_1
    exact sw_iret (pc := 22) F T rfl rfl () (by unfold f_X10_isFlowing_r; rw [if_pos c_2]) rfl dX10_isFlowing_22
def f_X10_densityNow_r (S : Nat → Int64) : Int64 := (f_X10_densityAt_r S (S 20) (S 21))
set_option maxHeartbeats 4000000 in
set_option maxRecDepth 100000 in
theorem k_X10_densityNow (l : Launch) (G : sw_E) (h0 : Nat) (b0 : Nat) (b1 : Nat) (np : Int32) (th : Int32) (hh : Int64) (S : Nat → Int64) (P : Nat → Int64) (hbd : -1000000 ≤ (S 21).toInt ∧ (S 21).toInt ≤ 1000000) : sw_M l G yX10_densityNow wsX10_densityNow ({ frames := 2, cells := 0, slots := 0, locals := 51 } : Room) [.ref h0] [(h0, .inr (10, [.ref b0, .ref b1, .int np, .int th, .long hh])), (b0, .inl (G.2.1.2, 344, .inr (.inl S))), (b1, .inl (G.2.1.2, 1032, .inr (.inl P)))] (sw_QL G (S := Unit) (fun (r : Int64) (_ : Unit) => r = f_X10_densityNow_r S) (fun _ => [(h0, .inr (10, [.ref b0, .ref b1, .int np, .int th, .long hh])), (b0, .inl (G.2.1.2, 344, .inr (.inl S))), (b1, .inl (G.2.1.2, 1032, .inr (.inl P)))])) 0 0 := by
  refine sw_start (cc := cX10_densityNow) (maxL := 1) (ret := some .long) (lv := [(0, .ref h0)]) (own := RX10) (nm := "densityNow") (by decide +kernel) rfl rfl rfl rfl (Nat.le_of_ble_eq_true rfl) (fun C F T => ?_)
  have in10 : ∀ w ∈ u_ws RX10 TX10 5, w ∈ wsX10_densityNow := fun w h => List.mem_cons_of_mem _ (List.mem_append_right _ (h))
  refine sw_aload_n (pc := 0) F dX10_densityNow_0 rfl 0 rfl ?_
  refine sw_aload_n (pc := 1) F dX10_densityNow_1 rfl 0 rfl ?_
  refine sw_get (pc := 2) (Cn := RX10) (T := TX10) (N := 5) (ci := 10) (v := .ref b0) F in10 0 rfl rfl 0 (by decide) rfl (List.mem_of_getElem? (i := 1) rfl) rfl dX10_densityNow_2 ?_
  refine sw_bipush (pc := 5) (v := 20) F dX10_densityNow_5 rfl ?_
  refine sw_lald (pc := 7) F 1 rfl (sw_in rfl) dX10_densityNow_7 ?_
  refine sw_naml (e := S 20) rfl (fun x_1 ex_1 => ?_)
  refine sw_aload_n (pc := 8) F dX10_densityNow_8 rfl 0 rfl ?_
  refine sw_get (pc := 9) (Cn := RX10) (T := TX10) (N := 5) (ci := 10) (v := .ref b0) F in10 0 rfl rfl 0 (by decide) rfl (List.mem_of_getElem? (i := 1) rfl) rfl dX10_densityNow_9 ?_
  refine sw_bipush (pc := 12) (v := 21) F dX10_densityNow_12 rfl ?_
  refine sw_lald (pc := 14) F 1 rfl (sw_in rfl) dX10_densityNow_14 ?_
  refine sw_naml (e := S 21) rfl (fun x_2 ex_2 => ?_)
  refine sw_calll (pc := 15) (wr := []) (k' := 0) (n' := 0) F (sw_runV (R := ({ frames := 2, cells := 0, slots := 0, locals := 51 } : Room)) (q0 := 0) (na := 2) F T.2.1 T.2.2.1 (k_X10_densityAt l G h0 b0 b1 np th hh S P x_1 x_2 (by subst_vars; exact hbd)) [0, 1, 2] rfl (by decide) gX10_densityNow_X10_densityAt rfl rfl rfl (by decide +kernel) ⟨Nat.le_of_ble_eq_true rfl, Nat.le_of_ble_eq_true rfl⟩ rfl rfl rfl rfl rfl (Nat.le_of_ble_eq_true rfl) dX10_densityNow_15 (Nat.le_of_ble_eq_true rfl) (Nat.le_of_ble_eq_true rfl)) [0, 1, 2] [] rfl rfl (by decide) (by decide) rfl rfl (fun r_3 u_4 h_5 => ?_)
  have e_6 : r_3 = f_X10_densityAt_r S x_1 x_2 := h_5
  refine sw_eq (ws' := [(h0, .inr (10, [.ref b0, .ref b1, .int np, .int th, .long hh])), (b0, .inl (G.2.1.2, 344, .inr (.inl S))), (b1, .inl (G.2.1.2, 1032, .inr (.inl P)))]) (lv' := [(0, .ref h0)]) (st' := [.long r_3]) rfl rfl rfl ?_
  subst e_6
  subst ex_2
  subst ex_1
  exact sw_lret (pc := 18) F T () rfl rfl dX10_densityNow_18
def f_X10_density_r (S : Nat → Int64) : Int64 := (f_X10_densityNow_r S)
set_option maxHeartbeats 4000000 in
set_option maxRecDepth 100000 in
theorem k_X10_density (l : Launch) (G : sw_E) (h0 : Nat) (b0 : Nat) (b1 : Nat) (np : Int32) (th : Int32) (hh : Int64) (S : Nat → Int64) (P : Nat → Int64) (hbd : -1000000 ≤ (S 21).toInt ∧ (S 21).toInt ≤ 1000000) : sw_M l G yX10_density wsX10_density ({ frames := 3, cells := 0, slots := 0, locals := 71 } : Room) [.ref h0] [(h0, .inr (10, [.ref b0, .ref b1, .int np, .int th, .long hh])), (b0, .inl (G.2.1.2, 344, .inr (.inl S))), (b1, .inl (G.2.1.2, 1032, .inr (.inl P)))] (sw_QL G (S := Unit) (fun (r : Int64) (_ : Unit) => r = f_X10_density_r S) (fun _ => [(h0, .inr (10, [.ref b0, .ref b1, .int np, .int 0, .long hh])), (b0, .inl (G.2.1.2, 344, .inr (.inl S))), (b1, .inl (G.2.1.2, 1032, .inr (.inl P)))])) 0 0 := by
  refine sw_start (cc := cX10_density) (maxL := 1) (ret := some .long) (lv := [(0, .ref h0)]) (own := RX10) (nm := "density") (by decide +kernel) rfl rfl rfl rfl (Nat.le_of_ble_eq_true rfl) (fun C F T => ?_)
  have in10 : ∀ w ∈ u_ws RX10 TX10 5, w ∈ wsX10_density := fun w h => List.mem_cons_of_mem _ (List.mem_append_right _ (h))
  refine sw_aload_n (pc := 0) F dX10_density_0 rfl 0 rfl ?_
  refine sw_iconst (pc := 1) (v := 0) F dX10_density_1 rfl ?_
  refine sw_put (pc := 2) (Cn := RX10) (T := TX10) (N := 5) (ci := 10) (ty0 := tyX10) (ws' := [(h0, .inr (10, [.ref b0, .ref b1, .int np, .int 0, .long hh])), (b0, .inl (G.2.1.2, 344, .inr (.inl S))), (b1, .inl (G.2.1.2, 1032, .inr (.inl P)))]) F in10 tyX10_ok nmX10 0 rfl rfl 3 (by decide) rfl (List.mem_of_getElem? (i := 1) rfl) rfl rfl rfl (Nat.le_of_ble_eq_true rfl) dX10_density_2 rfl ?_
  refine sw_aload_n (pc := 5) F dX10_density_5 rfl 0 rfl ?_
  refine sw_calll (pc := 6) (wr := []) (k' := 0) (n' := 0) F (sw_runV (R := ({ frames := 3, cells := 0, slots := 0, locals := 71 } : Room)) (q0 := 0) (na := 0) F T.2.1 T.2.2.1 (k_X10_densityNow l G h0 b0 b1 np 0 hh S P (by assumption)) [0, 1, 2] rfl (by decide) gX10_density_X10_densityNow rfl rfl rfl (by decide +kernel) ⟨Nat.le_of_ble_eq_true rfl, Nat.le_of_ble_eq_true rfl⟩ rfl rfl rfl rfl rfl (Nat.le_of_ble_eq_true rfl) dX10_density_6 (Nat.le_of_ble_eq_true rfl) (Nat.le_of_ble_eq_true rfl)) [0, 1, 2] [] rfl rfl (by decide) (by decide) rfl rfl (fun r_1 u_2 h_3 => ?_)
  have e_4 : r_1 = f_X10_densityNow_r S := h_3
  refine sw_eq (ws' := [(h0, .inr (10, [.ref b0, .ref b1, .int np, .int 0, .long hh])), (b0, .inl (G.2.1.2, 344, .inr (.inl S))), (b1, .inl (G.2.1.2, 1032, .inr (.inl P)))]) (lv' := [(0, .ref h0)]) (st' := [.long r_1]) rfl rfl rfl ?_
  subst e_4
  exact sw_lret (pc := 9) F T () rfl rfl dX10_density_9
def f_X10_transmitter_0_r (S : Nat → Int64) (t : Int32) (Nt : Nat) : Int32 := (f_X10_tells_r (f_X10_readingOf_r S Nt t))
set_option maxHeartbeats 4000000 in
set_option maxRecDepth 100000 in
theorem k_X10_transmitter_0 (l : Launch) (G : sw_E) (h0 : Nat) (b0 : Nat) (b1 : Nat) (np : Int32) (th : Int32) (hh : Int64) (S : Nat → Int64) (P : Nat → Int64) (t : Int32) (Nt : Nat) (ht : t = nI Nt) (hNt : Nt < 4) : sw_M l G yX10_transmitter wsX10_transmitter ({ frames := 2, cells := 0, slots := 0, locals := 46 } : Room) [.ref h0, .int t, .int 0] [(h0, .inr (10, [.ref b0, .ref b1, .int np, .int th, .long hh])), (b0, .inl (G.2.1.2, 344, .inr (.inl S))), (b1, .inl (G.2.1.2, 1032, .inr (.inl P)))] (sw_QI G (S := Unit) (fun (r : Int32) (_ : Unit) => r = f_X10_transmitter_0_r S t Nt) (fun _ => [(h0, .inr (10, [.ref b0, .ref b1, .int np, .int 0, .long hh])), (b0, .inl (G.2.1.2, 344, .inr (.inl S))), (b1, .inl (G.2.1.2, 1032, .inr (.inl P)))])) 0 0 := by
  refine sw_start (cc := cX10_transmitter) (maxL := 3) (ret := some .int) (lv := [(0, .ref h0), (1, .int t), (2, .int 0)]) (own := RX10) (nm := "transmitter") (by decide +kernel) rfl rfl rfl rfl (Nat.le_of_ble_eq_true rfl) (fun C F T => ?_)
  refine sw_iload_n (pc := 0) F dX10_transmitter_0 rfl 1 rfl ?_
  refine sw_calli (pc := 1) (wr := [(h0, .inr (10, [.ref b0, .ref b1, .int np, .int th, .long hh])), (b0, .inl (G.2.1.2, 344, .inr (.inl S))), (b1, .inl (G.2.1.2, 1032, .inr (.inl P)))]) (k' := 0) (n' := 0) F (sw_runS (R := ({ frames := 2, cells := 0, slots := 0, locals := 46 } : Room)) (na := 1) F T.2.1 T.2.2.1 (k_X10_isTransmitter l G t) [] rfl (by decide) gX10_transmitter_X10_isTransmitter rfl rfl rfl (by decide +kernel) ⟨Nat.le_of_ble_eq_true rfl, Nat.le_of_ble_eq_true rfl⟩ rfl rfl (Nat.le_of_ble_eq_true rfl) dX10_transmitter_1 (Nat.le_of_ble_eq_true rfl) (Nat.le_of_ble_eq_true rfl)) [] [0, 1, 2] rfl rfl (by decide) (by decide) rfl rfl (fun r_1 u_2 h_3 => ?_)
  have e_4 : r_1 = f_X10_isTransmitter_r t := h_3
  refine sw_eq (ws' := [(h0, .inr (10, [.ref b0, .ref b1, .int np, .int th, .long hh])), (b0, .inl (G.2.1.2, 344, .inr (.inl S))), (b1, .inl (G.2.1.2, 1032, .inr (.inl P)))]) (lv' := [(0, .ref h0), (1, .int t), (2, .int 0)]) (st' := [.int r_1]) rfl rfl rfl ?_
  refine sw_if_ne (pc := 4) (tgt := 13) F dX10_transmitter_4 (by decide) (fun _ => ?_) (fun c => absurd c (by rw [e_4]; exact isT_1 ht hNt))
  refine sw_iload_n (pc := 13) F dX10_transmitter_13 rfl 2 rfl ?_
  refine sw_i2l (pc := 14) (v := 0) F dX10_transmitter_14 rfl ?_
  refine sw_lconst (pc := 15) (v := 0) F dX10_transmitter_15 rfl ?_
  refine sw_ldc2 (pc := 16) (v := 3) F (List.mem_of_getElem? (i := 1) rfl) dX10_transmitter_16 ?_
  refine sw_calli (pc := 19) (wr := [(h0, .inr (10, [.ref b0, .ref b1, .int np, .int th, .long hh])), (b0, .inl (G.2.1.2, 344, .inr (.inl S))), (b1, .inl (G.2.1.2, 1032, .inr (.inl P)))]) (k' := 0) (n' := 0) F (sw_runS (R := ({ frames := 2, cells := 0, slots := 0, locals := 46 } : Room)) (na := 3) F T.2.1 T.2.2.1 (k_X10_in l G 0 0 3) [] rfl (by decide) gX10_transmitter_X10_in rfl rfl rfl (by decide +kernel) ⟨Nat.le_of_ble_eq_true rfl, Nat.le_of_ble_eq_true rfl⟩ rfl rfl (Nat.le_of_ble_eq_true rfl) dX10_transmitter_19 (Nat.le_of_ble_eq_true rfl) (Nat.le_of_ble_eq_true rfl)) [] [0, 1, 2] rfl rfl (by decide) (by decide) rfl rfl (fun r_5 u_6 h_7 => ?_)
  have e_8 : r_5 = f_X10_in_r 0 0 3 := h_7
  refine sw_eq (ws' := [(h0, .inr (10, [.ref b0, .ref b1, .int np, .int th, .long hh])), (b0, .inl (G.2.1.2, 344, .inr (.inl S))), (b1, .inl (G.2.1.2, 1032, .inr (.inl P)))]) (lv' := [(0, .ref h0), (1, .int t), (2, .int 0)]) (st' := [.int r_5]) rfl rfl rfl ?_
  refine sw_if_ne (pc := 22) (tgt := 31) F dX10_transmitter_22 (by decide) (fun _ => ?_) (fun c => absurd c (by rw [e_8]; exact (by decide)))
  refine sw_aload_n (pc := 31) F dX10_transmitter_31 rfl 0 rfl ?_
  refine sw_iload_n (pc := 32) F dX10_transmitter_32 rfl 2 rfl ?_
  refine sw_if_ne (pc := 33) (tgt := 44) F dX10_transmitter_33 (by decide) (fun c => absurd c (by decide)) (fun _ => ?_)
  refine sw_aload_n (pc := 36) F dX10_transmitter_36 rfl 0 rfl ?_
  refine sw_iload_n (pc := 37) F dX10_transmitter_37 rfl 1 rfl ?_
  refine sw_calll (pc := 38) (wr := []) (k' := 0) (n' := 0) F (sw_runV (R := ({ frames := 2, cells := 0, slots := 0, locals := 46 } : Room)) (q0 := 0) (na := 1) F T.2.1 T.2.2.1 (k_X10_readingOf l G h0 b0 b1 np th hh S P Nt t ht (by omega)) [0, 1, 2] rfl (by decide) gX10_transmitter_X10_readingOf rfl rfl rfl (by decide +kernel) ⟨Nat.le_of_ble_eq_true rfl, Nat.le_of_ble_eq_true rfl⟩ rfl rfl rfl rfl rfl (Nat.le_of_ble_eq_true rfl) dX10_transmitter_38 (Nat.le_of_ble_eq_true rfl) (Nat.le_of_ble_eq_true rfl)) [0, 1, 2] [] rfl rfl (by decide) (by decide) rfl rfl (fun r_9 u_10 h_11 => ?_)
  have e_12 : r_9 = f_X10_readingOf_r S Nt t := h_11
  refine sw_eq (ws' := [(h0, .inr (10, [.ref b0, .ref b1, .int np, .int th, .long hh])), (b0, .inl (G.2.1.2, 344, .inr (.inl S))), (b1, .inl (G.2.1.2, 1032, .inr (.inl P)))]) (lv' := [(0, .ref h0), (1, .int t), (2, .int 0)]) (st' := [.long r_9, .ref h0]) rfl rfl rfl ?_
  refine sw_goto (pc := 41) (tgt := 91) F dX10_transmitter_41 (by decide) ?_
  refine sw_calli (pc := 91) (wr := []) (k' := 0) (n' := 0) F (sw_runV (R := ({ frames := 2, cells := 0, slots := 0, locals := 46 } : Room)) (q0 := 0) (na := 1) F T.2.1 T.2.2.1 (k_X10_tells l G h0 b0 b1 np th hh S P r_9) [0, 1, 2] rfl (by decide) gX10_transmitter_X10_tells rfl rfl rfl (by decide +kernel) ⟨Nat.le_of_ble_eq_true rfl, Nat.le_of_ble_eq_true rfl⟩ rfl rfl rfl rfl rfl (Nat.le_of_ble_eq_true rfl) dX10_transmitter_91 (Nat.le_of_ble_eq_true rfl) (Nat.le_of_ble_eq_true rfl)) [0, 1, 2] [] rfl rfl (by decide) (by decide) rfl rfl (fun r_13 u_14 h_15 => ?_)
  have e_16 : r_13 = f_X10_tells_r r_9 := h_15
  refine sw_eq (ws' := [(h0, .inr (10, [.ref b0, .ref b1, .int np, .int 0, .long hh])), (b0, .inl (G.2.1.2, 344, .inr (.inl S))), (b1, .inl (G.2.1.2, 1032, .inr (.inl P)))]) (lv' := [(0, .ref h0), (1, .int t), (2, .int 0)]) (st' := [.int r_13]) rfl rfl rfl ?_
  subst e_16
  subst e_12
  subst e_8
  subst e_4
  exact sw_iret (pc := 94) F T rfl rfl () rfl rfl dX10_transmitter_94
def f_X10_totalOf_0_r (S : Nat → Int64) : Int64 := (S 42)
set_option maxHeartbeats 4000000 in
set_option maxRecDepth 100000 in
theorem k_X10_totalOf_0 (l : Launch) (G : sw_E) (h0 : Nat) (b0 : Nat) (b1 : Nat) (np : Int32) (th : Int32) (hh : Int64) (S : Nat → Int64) (P : Nat → Int64)  : sw_M l G yX10_totalOf wsX10_totalOf ({ frames := 0, cells := 0, slots := 0, locals := 0 } : Room) [.ref h0, .int 0] [(h0, .inr (10, [.ref b0, .ref b1, .int np, .int th, .long hh])), (b0, .inl (G.2.1.2, 344, .inr (.inl S))), (b1, .inl (G.2.1.2, 1032, .inr (.inl P)))] (sw_QL G (S := Unit) (fun (r : Int64) (_ : Unit) => r = f_X10_totalOf_0_r S) (fun _ => [(h0, .inr (10, [.ref b0, .ref b1, .int np, .int th, .long hh])), (b0, .inl (G.2.1.2, 344, .inr (.inl S))), (b1, .inl (G.2.1.2, 1032, .inr (.inl P)))])) 0 0 := by
  refine sw_start (cc := cX10_totalOf) (maxL := 2) (ret := some .long) (lv := [(0, .ref h0), (1, .int 0)]) (own := RX10) (nm := "totalOf") (by decide +kernel) rfl rfl rfl rfl (Nat.le_of_ble_eq_true rfl) (fun C F T => ?_)
  have in10 : ∀ w ∈ u_ws RX10 TX10 5, w ∈ wsX10_totalOf := fun w h => List.mem_cons_of_mem _ (List.mem_append_right _ (h))
  refine sw_iload_n (pc := 0) F dX10_totalOf_0 rfl 1 rfl ?_
  refine sw_if_ne (pc := 1) (tgt := 14) F dX10_totalOf_1 (by decide) (fun c => absurd c (by decide)) (fun _ => ?_)
  refine sw_aload_n (pc := 4) F dX10_totalOf_4 rfl 0 rfl ?_
  refine sw_get (pc := 5) (Cn := RX10) (T := TX10) (N := 5) (ci := 10) (v := .ref b0) F in10 0 rfl rfl 0 (by decide) rfl (List.mem_of_getElem? (i := 1) rfl) rfl dX10_totalOf_5 ?_
  refine sw_bipush (pc := 8) (v := 42) F dX10_totalOf_8 rfl ?_
  refine sw_lald (pc := 10) F 1 rfl (sw_in rfl) dX10_totalOf_10 ?_
  refine sw_naml (e := S 42) rfl (fun x_1 ex_1 => ?_)
  refine sw_goto (pc := 11) (tgt := 51) F dX10_totalOf_11 (by decide) ?_
  subst ex_1
  exact sw_lret (pc := 51) F T () rfl rfl dX10_totalOf_51
def f_X10_total_0_r (S : Nat → Int64) : Int64 := (f_X10_totalOf_0_r S)
set_option maxHeartbeats 4000000 in
set_option maxRecDepth 100000 in
theorem k_X10_total_0 (l : Launch) (G : sw_E) (h0 : Nat) (b0 : Nat) (b1 : Nat) (np : Int32) (th : Int32) (hh : Int64) (S : Nat → Int64) (P : Nat → Int64)  : sw_M l G yX10_total wsX10_total ({ frames := 1, cells := 0, slots := 0, locals := 25 } : Room) [.ref h0, .int 0] [(h0, .inr (10, [.ref b0, .ref b1, .int np, .int th, .long hh])), (b0, .inl (G.2.1.2, 344, .inr (.inl S))), (b1, .inl (G.2.1.2, 1032, .inr (.inl P)))] (sw_QL G (S := Unit) (fun (r : Int64) (_ : Unit) => r = f_X10_total_0_r S) (fun _ => [(h0, .inr (10, [.ref b0, .ref b1, .int np, .int 0, .long hh])), (b0, .inl (G.2.1.2, 344, .inr (.inl S))), (b1, .inl (G.2.1.2, 1032, .inr (.inl P)))])) 0 0 := by
  refine sw_start (cc := cX10_total) (maxL := 2) (ret := some .long) (lv := [(0, .ref h0), (1, .int 0)]) (own := RX10) (nm := "total") (by decide +kernel) rfl rfl rfl rfl (Nat.le_of_ble_eq_true rfl) (fun C F T => ?_)
  have in10 : ∀ w ∈ u_ws RX10 TX10 5, w ∈ wsX10_total := fun w h => List.mem_cons_of_mem _ (List.mem_append_right _ (h))
  refine sw_iload_n (pc := 0) F dX10_total_0 rfl 1 rfl ?_
  refine sw_i2l (pc := 1) (v := 0) F dX10_total_1 rfl ?_
  refine sw_lconst (pc := 2) (v := 0) F dX10_total_2 rfl ?_
  refine sw_ldc2 (pc := 3) (v := 3) F (List.mem_of_getElem? (i := 1) rfl) dX10_total_3 ?_
  refine sw_calli (pc := 6) (wr := [(h0, .inr (10, [.ref b0, .ref b1, .int np, .int th, .long hh])), (b0, .inl (G.2.1.2, 344, .inr (.inl S))), (b1, .inl (G.2.1.2, 1032, .inr (.inl P)))]) (k' := 0) (n' := 0) F (sw_runS (R := ({ frames := 1, cells := 0, slots := 0, locals := 25 } : Room)) (na := 3) F T.2.1 T.2.2.1 (k_X10_in l G 0 0 3) [] rfl (by decide) gX10_total_X10_in rfl rfl rfl (by decide +kernel) ⟨Nat.le_of_ble_eq_true rfl, Nat.le_of_ble_eq_true rfl⟩ rfl rfl (Nat.le_of_ble_eq_true rfl) dX10_total_6 (Nat.le_of_ble_eq_true rfl) (Nat.le_of_ble_eq_true rfl)) [] [0, 1, 2] rfl rfl (by decide) (by decide) rfl rfl (fun r_1 u_2 h_3 => ?_)
  have e_4 : r_1 = f_X10_in_r 0 0 3 := h_3
  refine sw_eq (ws' := [(h0, .inr (10, [.ref b0, .ref b1, .int np, .int th, .long hh])), (b0, .inl (G.2.1.2, 344, .inr (.inl S))), (b1, .inl (G.2.1.2, 1032, .inr (.inl P)))]) (lv' := [(0, .ref h0), (1, .int 0)]) (st' := [.int r_1]) rfl rfl rfl ?_
  refine sw_if_ne (pc := 9) (tgt := 19) F dX10_total_9 (by decide) (fun _ => ?_) (fun c => absurd c (by rw [e_4]; exact (by decide)))
  refine sw_aload_n (pc := 19) F dX10_total_19 rfl 0 rfl ?_
  refine sw_iconst (pc := 20) (v := 0) F dX10_total_20 rfl ?_
  refine sw_put (pc := 21) (Cn := RX10) (T := TX10) (N := 5) (ci := 10) (ty0 := tyX10) (ws' := [(h0, .inr (10, [.ref b0, .ref b1, .int np, .int 0, .long hh])), (b0, .inl (G.2.1.2, 344, .inr (.inl S))), (b1, .inl (G.2.1.2, 1032, .inr (.inl P)))]) F in10 tyX10_ok nmX10 0 rfl rfl 3 (by decide) rfl (List.mem_of_getElem? (i := 2) rfl) rfl rfl rfl (Nat.le_of_ble_eq_true rfl) dX10_total_21 rfl ?_
  refine sw_aload_n (pc := 24) F dX10_total_24 rfl 0 rfl ?_
  refine sw_iload_n (pc := 25) F dX10_total_25 rfl 1 rfl ?_
  refine sw_calll (pc := 26) (wr := []) (k' := 0) (n' := 0) F (sw_runV (R := ({ frames := 1, cells := 0, slots := 0, locals := 25 } : Room)) (q0 := 0) (na := 1) F T.2.1 T.2.2.1 (k_X10_totalOf_0 l G h0 b0 b1 np 0 hh S P) [0, 1, 2] rfl (by decide) gX10_total_X10_totalOf rfl rfl rfl (by decide +kernel) ⟨Nat.le_of_ble_eq_true rfl, Nat.le_of_ble_eq_true rfl⟩ rfl rfl rfl rfl rfl (Nat.le_of_ble_eq_true rfl) dX10_total_26 (Nat.le_of_ble_eq_true rfl) (Nat.le_of_ble_eq_true rfl)) [0, 1, 2] [] rfl rfl (by decide) (by decide) rfl rfl (fun r_5 u_6 h_7 => ?_)
  have e_8 : r_5 = f_X10_totalOf_0_r S := h_7
  refine sw_eq (ws' := [(h0, .inr (10, [.ref b0, .ref b1, .int np, .int 0, .long hh])), (b0, .inl (G.2.1.2, 344, .inr (.inl S))), (b1, .inl (G.2.1.2, 1032, .inr (.inl P)))]) (lv' := [(0, .ref h0), (1, .int 0)]) (st' := [.long r_5]) rfl rfl rfl ?_
  subst e_8
  subst e_4
  exact sw_lret (pc := 29) F T () rfl rfl dX10_total_29
def f_X10_transmitter_1_r (S : Nat → Int64) (Nt : Nat) : Int32 := (f_X10_tells_r (S (18 + Nt)))
set_option maxHeartbeats 4000000 in
set_option maxRecDepth 100000 in
theorem k_X10_transmitter_1 (l : Launch) (G : sw_E) (h0 : Nat) (b0 : Nat) (b1 : Nat) (np : Int32) (th : Int32) (hh : Int64) (S : Nat → Int64) (P : Nat → Int64) (t : Int32) (Nt : Nat) (ht : t = nI Nt) (hNt : Nt < 4) : sw_M l G yX10_transmitter wsX10_transmitter ({ frames := 2, cells := 0, slots := 0, locals := 45 } : Room) [.ref h0, .int t, .int 1] [(h0, .inr (10, [.ref b0, .ref b1, .int np, .int th, .long hh])), (b0, .inl (G.2.1.2, 344, .inr (.inl S))), (b1, .inl (G.2.1.2, 1032, .inr (.inl P)))] (sw_QI G (S := Unit) (fun (r : Int32) (_ : Unit) => r = f_X10_transmitter_1_r S Nt) (fun _ => [(h0, .inr (10, [.ref b0, .ref b1, .int np, .int 0, .long hh])), (b0, .inl (G.2.1.2, 344, .inr (.inl S))), (b1, .inl (G.2.1.2, 1032, .inr (.inl P)))])) 0 0 := by
  refine sw_start (cc := cX10_transmitter) (maxL := 3) (ret := some .int) (lv := [(0, .ref h0), (1, .int t), (2, .int 1)]) (own := RX10) (nm := "transmitter") (by decide +kernel) rfl rfl rfl rfl (Nat.le_of_ble_eq_true rfl) (fun C F T => ?_)
  have in10 : ∀ w ∈ u_ws RX10 TX10 5, w ∈ wsX10_transmitter := fun w h => List.mem_cons_of_mem _ (List.mem_append_right _ (h))
  refine sw_iload_n (pc := 0) F dX10_transmitter_0 rfl 1 rfl ?_
  refine sw_calli (pc := 1) (wr := [(h0, .inr (10, [.ref b0, .ref b1, .int np, .int th, .long hh])), (b0, .inl (G.2.1.2, 344, .inr (.inl S))), (b1, .inl (G.2.1.2, 1032, .inr (.inl P)))]) (k' := 0) (n' := 0) F (sw_runS (R := ({ frames := 2, cells := 0, slots := 0, locals := 45 } : Room)) (na := 1) F T.2.1 T.2.2.1 (k_X10_isTransmitter l G t) [] rfl (by decide) gX10_transmitter_X10_isTransmitter rfl rfl rfl (by decide +kernel) ⟨Nat.le_of_ble_eq_true rfl, Nat.le_of_ble_eq_true rfl⟩ rfl rfl (Nat.le_of_ble_eq_true rfl) dX10_transmitter_1 (Nat.le_of_ble_eq_true rfl) (Nat.le_of_ble_eq_true rfl)) [] [0, 1, 2] rfl rfl (by decide) (by decide) rfl rfl (fun r_1 u_2 h_3 => ?_)
  have e_4 : r_1 = f_X10_isTransmitter_r t := h_3
  refine sw_eq (ws' := [(h0, .inr (10, [.ref b0, .ref b1, .int np, .int th, .long hh])), (b0, .inl (G.2.1.2, 344, .inr (.inl S))), (b1, .inl (G.2.1.2, 1032, .inr (.inl P)))]) (lv' := [(0, .ref h0), (1, .int t), (2, .int 1)]) (st' := [.int r_1]) rfl rfl rfl ?_
  refine sw_if_ne (pc := 4) (tgt := 13) F dX10_transmitter_4 (by decide) (fun _ => ?_) (fun c => absurd c (by rw [e_4]; exact isT_1 ht hNt))
  refine sw_iload_n (pc := 13) F dX10_transmitter_13 rfl 2 rfl ?_
  refine sw_i2l (pc := 14) (v := 1) F dX10_transmitter_14 rfl ?_
  refine sw_lconst (pc := 15) (v := 0) F dX10_transmitter_15 rfl ?_
  refine sw_ldc2 (pc := 16) (v := 3) F (List.mem_of_getElem? (i := 1) rfl) dX10_transmitter_16 ?_
  refine sw_calli (pc := 19) (wr := [(h0, .inr (10, [.ref b0, .ref b1, .int np, .int th, .long hh])), (b0, .inl (G.2.1.2, 344, .inr (.inl S))), (b1, .inl (G.2.1.2, 1032, .inr (.inl P)))]) (k' := 0) (n' := 0) F (sw_runS (R := ({ frames := 2, cells := 0, slots := 0, locals := 45 } : Room)) (na := 3) F T.2.1 T.2.2.1 (k_X10_in l G 1 0 3) [] rfl (by decide) gX10_transmitter_X10_in rfl rfl rfl (by decide +kernel) ⟨Nat.le_of_ble_eq_true rfl, Nat.le_of_ble_eq_true rfl⟩ rfl rfl (Nat.le_of_ble_eq_true rfl) dX10_transmitter_19 (Nat.le_of_ble_eq_true rfl) (Nat.le_of_ble_eq_true rfl)) [] [0, 1, 2] rfl rfl (by decide) (by decide) rfl rfl (fun r_5 u_6 h_7 => ?_)
  have e_8 : r_5 = f_X10_in_r 1 0 3 := h_7
  refine sw_eq (ws' := [(h0, .inr (10, [.ref b0, .ref b1, .int np, .int th, .long hh])), (b0, .inl (G.2.1.2, 344, .inr (.inl S))), (b1, .inl (G.2.1.2, 1032, .inr (.inl P)))]) (lv' := [(0, .ref h0), (1, .int t), (2, .int 1)]) (st' := [.int r_5]) rfl rfl rfl ?_
  refine sw_if_ne (pc := 22) (tgt := 31) F dX10_transmitter_22 (by decide) (fun _ => ?_) (fun c => absurd c (by rw [e_8]; exact (by decide)))
  refine sw_aload_n (pc := 31) F dX10_transmitter_31 rfl 0 rfl ?_
  refine sw_iload_n (pc := 32) F dX10_transmitter_32 rfl 2 rfl ?_
  refine sw_if_ne (pc := 33) (tgt := 44) F dX10_transmitter_33 (by decide) (fun _ => ?_) (fun c => absurd c (by decide))
  refine sw_iload_n (pc := 44) F dX10_transmitter_44 rfl 2 rfl ?_
  refine sw_iconst (pc := 45) (v := 1) F dX10_transmitter_45 rfl ?_
  refine sw_icmp_ne (pc := 46) (tgt := 61) F dX10_transmitter_46 (by decide) (fun c => absurd c (by decide)) (fun _ => ?_)
  refine sw_aload_n (pc := 49) F dX10_transmitter_49 rfl 0 rfl ?_
  refine sw_get (pc := 50) (Cn := RX10) (T := TX10) (N := 5) (ci := 10) (v := .ref b0) F in10 0 rfl rfl 0 (by decide) rfl (List.mem_of_getElem? (i := 2) rfl) rfl dX10_transmitter_50 ?_
  refine sw_bipush (pc := 53) (v := 18) F dX10_transmitter_53 rfl ?_
  refine sw_iload_n (pc := 55) F dX10_transmitter_55 rfl 1 rfl ?_
  refine sw_iadd (pc := 56) F dX10_transmitter_56 ?_
  refine sw_topi (fun x_9 ex_9 => ?_)
  have ix_9 : x_9 = nI (18 + Nt) := by rw [ex_9, ht]; exact nI_add 18 Nt
  refine sw_lald (pc := 57) F 1 rfl (by rw [ix_9]; exact vp_in_nI (by omega) (by decide)) dX10_transmitter_57 ?_
  refine sw_naml (e := S (18 + Nt)) (by rw [(show x_9.toNatClampNeg = 18 + Nt by rw [ix_9]; exact nI_clamp (by omega))]) (fun x_10 ex_10 => ?_)
  refine sw_goto (pc := 58) (tgt := 91) F dX10_transmitter_58 (by decide) ?_
  refine sw_calli (pc := 91) (wr := []) (k' := 0) (n' := 0) F (sw_runV (R := ({ frames := 2, cells := 0, slots := 0, locals := 45 } : Room)) (q0 := 0) (na := 1) F T.2.1 T.2.2.1 (k_X10_tells l G h0 b0 b1 np th hh S P x_10) [0, 1, 2] rfl (by decide) gX10_transmitter_X10_tells rfl rfl rfl (by decide +kernel) ⟨Nat.le_of_ble_eq_true rfl, Nat.le_of_ble_eq_true rfl⟩ rfl rfl rfl rfl rfl (Nat.le_of_ble_eq_true rfl) dX10_transmitter_91 (Nat.le_of_ble_eq_true rfl) (Nat.le_of_ble_eq_true rfl)) [0, 1, 2] [] rfl rfl (by decide) (by decide) rfl rfl (fun r_11 u_12 h_13 => ?_)
  have e_14 : r_11 = f_X10_tells_r x_10 := h_13
  refine sw_eq (ws' := [(h0, .inr (10, [.ref b0, .ref b1, .int np, .int 0, .long hh])), (b0, .inl (G.2.1.2, 344, .inr (.inl S))), (b1, .inl (G.2.1.2, 1032, .inr (.inl P)))]) (lv' := [(0, .ref h0), (1, .int t), (2, .int 1)]) (st' := [.int r_11]) rfl rfl rfl ?_
  subst e_14
  subst ex_10
  subst ex_9
  subst e_8
  subst e_4
  exact sw_iret (pc := 94) F T rfl rfl () rfl rfl dX10_transmitter_94
def f_X10_totalOf_1_r (S : Nat → Int64) : Int64 := (S 43)
set_option maxHeartbeats 4000000 in
set_option maxRecDepth 100000 in
theorem k_X10_totalOf_1 (l : Launch) (G : sw_E) (h0 : Nat) (b0 : Nat) (b1 : Nat) (np : Int32) (th : Int32) (hh : Int64) (S : Nat → Int64) (P : Nat → Int64)  : sw_M l G yX10_totalOf wsX10_totalOf ({ frames := 0, cells := 0, slots := 0, locals := 0 } : Room) [.ref h0, .int 1] [(h0, .inr (10, [.ref b0, .ref b1, .int np, .int th, .long hh])), (b0, .inl (G.2.1.2, 344, .inr (.inl S))), (b1, .inl (G.2.1.2, 1032, .inr (.inl P)))] (sw_QL G (S := Unit) (fun (r : Int64) (_ : Unit) => r = f_X10_totalOf_1_r S) (fun _ => [(h0, .inr (10, [.ref b0, .ref b1, .int np, .int th, .long hh])), (b0, .inl (G.2.1.2, 344, .inr (.inl S))), (b1, .inl (G.2.1.2, 1032, .inr (.inl P)))])) 0 0 := by
  refine sw_start (cc := cX10_totalOf) (maxL := 2) (ret := some .long) (lv := [(0, .ref h0), (1, .int 1)]) (own := RX10) (nm := "totalOf") (by decide +kernel) rfl rfl rfl rfl (Nat.le_of_ble_eq_true rfl) (fun C F T => ?_)
  have in10 : ∀ w ∈ u_ws RX10 TX10 5, w ∈ wsX10_totalOf := fun w h => List.mem_cons_of_mem _ (List.mem_append_right _ (h))
  refine sw_iload_n (pc := 0) F dX10_totalOf_0 rfl 1 rfl ?_
  refine sw_if_ne (pc := 1) (tgt := 14) F dX10_totalOf_1 (by decide) (fun _ => ?_) (fun c => absurd c (by decide))
  refine sw_iload_n (pc := 14) F dX10_totalOf_14 rfl 1 rfl ?_
  refine sw_iconst (pc := 15) (v := 1) F dX10_totalOf_15 rfl ?_
  refine sw_icmp_ne (pc := 16) (tgt := 29) F dX10_totalOf_16 (by decide) (fun c => absurd c (by decide)) (fun _ => ?_)
  refine sw_aload_n (pc := 19) F dX10_totalOf_19 rfl 0 rfl ?_
  refine sw_get (pc := 20) (Cn := RX10) (T := TX10) (N := 5) (ci := 10) (v := .ref b0) F in10 0 rfl rfl 0 (by decide) rfl (List.mem_of_getElem? (i := 1) rfl) rfl dX10_totalOf_20 ?_
  refine sw_bipush (pc := 23) (v := 43) F dX10_totalOf_23 rfl ?_
  refine sw_lald (pc := 25) F 1 rfl (sw_in rfl) dX10_totalOf_25 ?_
  refine sw_naml (e := S 43) rfl (fun x_1 ex_1 => ?_)
  refine sw_goto (pc := 26) (tgt := 51) F dX10_totalOf_26 (by decide) ?_
  subst ex_1
  exact sw_lret (pc := 51) F T () rfl rfl dX10_totalOf_51
def f_X10_total_1_r (S : Nat → Int64) : Int64 := (f_X10_totalOf_1_r S)
set_option maxHeartbeats 4000000 in
set_option maxRecDepth 100000 in
theorem k_X10_total_1 (l : Launch) (G : sw_E) (h0 : Nat) (b0 : Nat) (b1 : Nat) (np : Int32) (th : Int32) (hh : Int64) (S : Nat → Int64) (P : Nat → Int64)  : sw_M l G yX10_total wsX10_total ({ frames := 1, cells := 0, slots := 0, locals := 25 } : Room) [.ref h0, .int 1] [(h0, .inr (10, [.ref b0, .ref b1, .int np, .int th, .long hh])), (b0, .inl (G.2.1.2, 344, .inr (.inl S))), (b1, .inl (G.2.1.2, 1032, .inr (.inl P)))] (sw_QL G (S := Unit) (fun (r : Int64) (_ : Unit) => r = f_X10_total_1_r S) (fun _ => [(h0, .inr (10, [.ref b0, .ref b1, .int np, .int 0, .long hh])), (b0, .inl (G.2.1.2, 344, .inr (.inl S))), (b1, .inl (G.2.1.2, 1032, .inr (.inl P)))])) 0 0 := by
  refine sw_start (cc := cX10_total) (maxL := 2) (ret := some .long) (lv := [(0, .ref h0), (1, .int 1)]) (own := RX10) (nm := "total") (by decide +kernel) rfl rfl rfl rfl (Nat.le_of_ble_eq_true rfl) (fun C F T => ?_)
  have in10 : ∀ w ∈ u_ws RX10 TX10 5, w ∈ wsX10_total := fun w h => List.mem_cons_of_mem _ (List.mem_append_right _ (h))
  refine sw_iload_n (pc := 0) F dX10_total_0 rfl 1 rfl ?_
  refine sw_i2l (pc := 1) (v := 1) F dX10_total_1 rfl ?_
  refine sw_lconst (pc := 2) (v := 0) F dX10_total_2 rfl ?_
  refine sw_ldc2 (pc := 3) (v := 3) F (List.mem_of_getElem? (i := 1) rfl) dX10_total_3 ?_
  refine sw_calli (pc := 6) (wr := [(h0, .inr (10, [.ref b0, .ref b1, .int np, .int th, .long hh])), (b0, .inl (G.2.1.2, 344, .inr (.inl S))), (b1, .inl (G.2.1.2, 1032, .inr (.inl P)))]) (k' := 0) (n' := 0) F (sw_runS (R := ({ frames := 1, cells := 0, slots := 0, locals := 25 } : Room)) (na := 3) F T.2.1 T.2.2.1 (k_X10_in l G 1 0 3) [] rfl (by decide) gX10_total_X10_in rfl rfl rfl (by decide +kernel) ⟨Nat.le_of_ble_eq_true rfl, Nat.le_of_ble_eq_true rfl⟩ rfl rfl (Nat.le_of_ble_eq_true rfl) dX10_total_6 (Nat.le_of_ble_eq_true rfl) (Nat.le_of_ble_eq_true rfl)) [] [0, 1, 2] rfl rfl (by decide) (by decide) rfl rfl (fun r_1 u_2 h_3 => ?_)
  have e_4 : r_1 = f_X10_in_r 1 0 3 := h_3
  refine sw_eq (ws' := [(h0, .inr (10, [.ref b0, .ref b1, .int np, .int th, .long hh])), (b0, .inl (G.2.1.2, 344, .inr (.inl S))), (b1, .inl (G.2.1.2, 1032, .inr (.inl P)))]) (lv' := [(0, .ref h0), (1, .int 1)]) (st' := [.int r_1]) rfl rfl rfl ?_
  refine sw_if_ne (pc := 9) (tgt := 19) F dX10_total_9 (by decide) (fun _ => ?_) (fun c => absurd c (by rw [e_4]; exact (by decide)))
  refine sw_aload_n (pc := 19) F dX10_total_19 rfl 0 rfl ?_
  refine sw_iconst (pc := 20) (v := 0) F dX10_total_20 rfl ?_
  refine sw_put (pc := 21) (Cn := RX10) (T := TX10) (N := 5) (ci := 10) (ty0 := tyX10) (ws' := [(h0, .inr (10, [.ref b0, .ref b1, .int np, .int 0, .long hh])), (b0, .inl (G.2.1.2, 344, .inr (.inl S))), (b1, .inl (G.2.1.2, 1032, .inr (.inl P)))]) F in10 tyX10_ok nmX10 0 rfl rfl 3 (by decide) rfl (List.mem_of_getElem? (i := 2) rfl) rfl rfl rfl (Nat.le_of_ble_eq_true rfl) dX10_total_21 rfl ?_
  refine sw_aload_n (pc := 24) F dX10_total_24 rfl 0 rfl ?_
  refine sw_iload_n (pc := 25) F dX10_total_25 rfl 1 rfl ?_
  refine sw_calll (pc := 26) (wr := []) (k' := 0) (n' := 0) F (sw_runV (R := ({ frames := 1, cells := 0, slots := 0, locals := 25 } : Room)) (q0 := 0) (na := 1) F T.2.1 T.2.2.1 (k_X10_totalOf_1 l G h0 b0 b1 np 0 hh S P) [0, 1, 2] rfl (by decide) gX10_total_X10_totalOf rfl rfl rfl (by decide +kernel) ⟨Nat.le_of_ble_eq_true rfl, Nat.le_of_ble_eq_true rfl⟩ rfl rfl rfl rfl rfl (Nat.le_of_ble_eq_true rfl) dX10_total_26 (Nat.le_of_ble_eq_true rfl) (Nat.le_of_ble_eq_true rfl)) [0, 1, 2] [] rfl rfl (by decide) (by decide) rfl rfl (fun r_5 u_6 h_7 => ?_)
  have e_8 : r_5 = f_X10_totalOf_1_r S := h_7
  refine sw_eq (ws' := [(h0, .inr (10, [.ref b0, .ref b1, .int np, .int 0, .long hh])), (b0, .inl (G.2.1.2, 344, .inr (.inl S))), (b1, .inl (G.2.1.2, 1032, .inr (.inl P)))]) (lv' := [(0, .ref h0), (1, .int 1)]) (st' := [.long r_5]) rfl rfl rfl ?_
  subst e_8
  subst e_4
  exact sw_lret (pc := 29) F T () rfl rfl dX10_total_29
def f_X10_transmitter_2_r (S : Nat → Int64) (Nt : Nat) : Int32 := if (f_X10_isFaulty_r S Nt) = 0 then ((f_X10_tells_r 0)) else ((f_X10_tells_r 1))
set_option maxHeartbeats 4000000 in
set_option maxRecDepth 100000 in
theorem k_X10_transmitter_2 (l : Launch) (G : sw_E) (h0 : Nat) (b0 : Nat) (b1 : Nat) (np : Int32) (th : Int32) (hh : Int64) (S : Nat → Int64) (P : Nat → Int64) (t : Int32) (Nt : Nat) (ht : t = nI Nt) (hNt : Nt < 4) : sw_M l G yX10_transmitter wsX10_transmitter ({ frames := 2, cells := 0, slots := 0, locals := 45 } : Room) [.ref h0, .int t, .int 2] [(h0, .inr (10, [.ref b0, .ref b1, .int np, .int th, .long hh])), (b0, .inl (G.2.1.2, 344, .inr (.inl S))), (b1, .inl (G.2.1.2, 1032, .inr (.inl P)))] (sw_QI G (S := Unit) (fun (r : Int32) (_ : Unit) => r = f_X10_transmitter_2_r S Nt) (fun _ => [(h0, .inr (10, [.ref b0, .ref b1, .int np, .int 0, .long hh])), (b0, .inl (G.2.1.2, 344, .inr (.inl S))), (b1, .inl (G.2.1.2, 1032, .inr (.inl P)))])) 0 0 := by
  refine sw_start (cc := cX10_transmitter) (maxL := 3) (ret := some .int) (lv := [(0, .ref h0), (1, .int t), (2, .int 2)]) (own := RX10) (nm := "transmitter") (by decide +kernel) rfl rfl rfl rfl (Nat.le_of_ble_eq_true rfl) (fun C F T => ?_)
  refine sw_iload_n (pc := 0) F dX10_transmitter_0 rfl 1 rfl ?_
  refine sw_calli (pc := 1) (wr := [(h0, .inr (10, [.ref b0, .ref b1, .int np, .int th, .long hh])), (b0, .inl (G.2.1.2, 344, .inr (.inl S))), (b1, .inl (G.2.1.2, 1032, .inr (.inl P)))]) (k' := 0) (n' := 0) F (sw_runS (R := ({ frames := 2, cells := 0, slots := 0, locals := 45 } : Room)) (na := 1) F T.2.1 T.2.2.1 (k_X10_isTransmitter l G t) [] rfl (by decide) gX10_transmitter_X10_isTransmitter rfl rfl rfl (by decide +kernel) ⟨Nat.le_of_ble_eq_true rfl, Nat.le_of_ble_eq_true rfl⟩ rfl rfl (Nat.le_of_ble_eq_true rfl) dX10_transmitter_1 (Nat.le_of_ble_eq_true rfl) (Nat.le_of_ble_eq_true rfl)) [] [0, 1, 2] rfl rfl (by decide) (by decide) rfl rfl (fun r_1 u_2 h_3 => ?_)
  have e_4 : r_1 = f_X10_isTransmitter_r t := h_3
  refine sw_eq (ws' := [(h0, .inr (10, [.ref b0, .ref b1, .int np, .int th, .long hh])), (b0, .inl (G.2.1.2, 344, .inr (.inl S))), (b1, .inl (G.2.1.2, 1032, .inr (.inl P)))]) (lv' := [(0, .ref h0), (1, .int t), (2, .int 2)]) (st' := [.int r_1]) rfl rfl rfl ?_
  refine sw_if_ne (pc := 4) (tgt := 13) F dX10_transmitter_4 (by decide) (fun _ => ?_) (fun c => absurd c (by rw [e_4]; exact isT_1 ht hNt))
  refine sw_iload_n (pc := 13) F dX10_transmitter_13 rfl 2 rfl ?_
  refine sw_i2l (pc := 14) (v := 2) F dX10_transmitter_14 rfl ?_
  refine sw_lconst (pc := 15) (v := 0) F dX10_transmitter_15 rfl ?_
  refine sw_ldc2 (pc := 16) (v := 3) F (List.mem_of_getElem? (i := 1) rfl) dX10_transmitter_16 ?_
  refine sw_calli (pc := 19) (wr := [(h0, .inr (10, [.ref b0, .ref b1, .int np, .int th, .long hh])), (b0, .inl (G.2.1.2, 344, .inr (.inl S))), (b1, .inl (G.2.1.2, 1032, .inr (.inl P)))]) (k' := 0) (n' := 0) F (sw_runS (R := ({ frames := 2, cells := 0, slots := 0, locals := 45 } : Room)) (na := 3) F T.2.1 T.2.2.1 (k_X10_in l G 2 0 3) [] rfl (by decide) gX10_transmitter_X10_in rfl rfl rfl (by decide +kernel) ⟨Nat.le_of_ble_eq_true rfl, Nat.le_of_ble_eq_true rfl⟩ rfl rfl (Nat.le_of_ble_eq_true rfl) dX10_transmitter_19 (Nat.le_of_ble_eq_true rfl) (Nat.le_of_ble_eq_true rfl)) [] [0, 1, 2] rfl rfl (by decide) (by decide) rfl rfl (fun r_5 u_6 h_7 => ?_)
  have e_8 : r_5 = f_X10_in_r 2 0 3 := h_7
  refine sw_eq (ws' := [(h0, .inr (10, [.ref b0, .ref b1, .int np, .int th, .long hh])), (b0, .inl (G.2.1.2, 344, .inr (.inl S))), (b1, .inl (G.2.1.2, 1032, .inr (.inl P)))]) (lv' := [(0, .ref h0), (1, .int t), (2, .int 2)]) (st' := [.int r_5]) rfl rfl rfl ?_
  refine sw_if_ne (pc := 22) (tgt := 31) F dX10_transmitter_22 (by decide) (fun _ => ?_) (fun c => absurd c (by rw [e_8]; exact (by decide)))
  refine sw_aload_n (pc := 31) F dX10_transmitter_31 rfl 0 rfl ?_
  refine sw_iload_n (pc := 32) F dX10_transmitter_32 rfl 2 rfl ?_
  refine sw_if_ne (pc := 33) (tgt := 44) F dX10_transmitter_33 (by decide) (fun _ => ?_) (fun c => absurd c (by decide))
  refine sw_iload_n (pc := 44) F dX10_transmitter_44 rfl 2 rfl ?_
  refine sw_iconst (pc := 45) (v := 1) F dX10_transmitter_45 rfl ?_
  refine sw_icmp_ne (pc := 46) (tgt := 61) F dX10_transmitter_46 (by decide) (fun _ => ?_) (fun c => absurd c (by decide))
  refine sw_iload_n (pc := 61) F dX10_transmitter_61 rfl 2 rfl ?_
  refine sw_iconst (pc := 62) (v := 2) F dX10_transmitter_62 rfl ?_
  refine sw_icmp_ne (pc := 63) (tgt := 82) F dX10_transmitter_63 (by decide) (fun c => absurd c (by decide)) (fun _ => ?_)
  refine sw_aload_n (pc := 66) F dX10_transmitter_66 rfl 0 rfl ?_
  refine sw_iload_n (pc := 67) F dX10_transmitter_67 rfl 1 rfl ?_
  refine sw_calli (pc := 68) (wr := []) (k' := 0) (n' := 0) F (sw_runV (R := ({ frames := 2, cells := 0, slots := 0, locals := 45 } : Room)) (q0 := 0) (na := 1) F T.2.1 T.2.2.1 (k_X10_isFaulty l G h0 b0 b1 np th hh S P Nt t ht (by omega)) [0, 1, 2] rfl (by decide) gX10_transmitter_X10_isFaulty rfl rfl rfl (by decide +kernel) ⟨Nat.le_of_ble_eq_true rfl, Nat.le_of_ble_eq_true rfl⟩ rfl rfl rfl rfl rfl (Nat.le_of_ble_eq_true rfl) dX10_transmitter_68 (Nat.le_of_ble_eq_true rfl) (Nat.le_of_ble_eq_true rfl)) [0, 1, 2] [] rfl rfl (by decide) (by decide) rfl rfl (fun r_9 u_10 h_11 => ?_)
  have e_12 : r_9 = f_X10_isFaulty_r S Nt := h_11
  refine sw_eq (ws' := [(h0, .inr (10, [.ref b0, .ref b1, .int np, .int th, .long hh])), (b0, .inl (G.2.1.2, 344, .inr (.inl S))), (b1, .inl (G.2.1.2, 1032, .inr (.inl P)))]) (lv' := [(0, .ref h0), (1, .int t), (2, .int 2)]) (st' := [.int r_9, .ref h0]) rfl rfl rfl ?_
  refine sw_if_eq (pc := 71) (tgt := 78) F dX10_transmitter_71 (by decide) (fun c_13 => ?_) (fun c_13 => ?_)
  · skip
    refine sw_lconst (pc := 78) (v := 0) F dX10_transmitter_78 rfl ?_
    refine sw_goto (pc := 79) (tgt := 91) F dX10_transmitter_79 (by decide) ?_
    refine sw_calli (pc := 91) (wr := []) (k' := 0) (n' := 0) F (sw_runV (R := ({ frames := 2, cells := 0, slots := 0, locals := 45 } : Room)) (q0 := 0) (na := 1) F T.2.1 T.2.2.1 (k_X10_tells l G h0 b0 b1 np th hh S P 0) [0, 1, 2] rfl (by decide) gX10_transmitter_X10_tells rfl rfl rfl (by decide +kernel) ⟨Nat.le_of_ble_eq_true rfl, Nat.le_of_ble_eq_true rfl⟩ rfl rfl rfl rfl rfl (Nat.le_of_ble_eq_true rfl) dX10_transmitter_91 (Nat.le_of_ble_eq_true rfl) (Nat.le_of_ble_eq_true rfl)) [0, 1, 2] [] rfl rfl (by decide) (by decide) rfl rfl (fun r_14 u_15 h_16 => ?_)
    have e_17 : r_14 = f_X10_tells_r 0 := h_16
    refine sw_eq (ws' := [(h0, .inr (10, [.ref b0, .ref b1, .int np, .int 0, .long hh])), (b0, .inl (G.2.1.2, 344, .inr (.inl S))), (b1, .inl (G.2.1.2, 1032, .inr (.inl P)))]) (lv' := [(0, .ref h0), (1, .int t), (2, .int 2)]) (st' := [.int r_14]) rfl rfl rfl ?_
    subst e_17
    subst e_12
    subst e_8
    subst e_4
    exact sw_iret (pc := 94) F T rfl rfl () (by unfold f_X10_transmitter_2_r; rw [if_pos c_13]) rfl dX10_transmitter_94
  · skip
    refine sw_lconst (pc := 74) (v := 1) F dX10_transmitter_74 rfl ?_
    refine sw_goto (pc := 75) (tgt := 91) F dX10_transmitter_75 (by decide) ?_
    refine sw_calli (pc := 91) (wr := []) (k' := 0) (n' := 0) F (sw_runV (R := ({ frames := 2, cells := 0, slots := 0, locals := 45 } : Room)) (q0 := 0) (na := 1) F T.2.1 T.2.2.1 (k_X10_tells l G h0 b0 b1 np th hh S P 1) [0, 1, 2] rfl (by decide) gX10_transmitter_X10_tells rfl rfl rfl (by decide +kernel) ⟨Nat.le_of_ble_eq_true rfl, Nat.le_of_ble_eq_true rfl⟩ rfl rfl rfl rfl rfl (Nat.le_of_ble_eq_true rfl) dX10_transmitter_91 (Nat.le_of_ble_eq_true rfl) (Nat.le_of_ble_eq_true rfl)) [0, 1, 2] [] rfl rfl (by decide) (by decide) rfl rfl (fun r_18 u_19 h_20 => ?_)
    have e_21 : r_18 = f_X10_tells_r 1 := h_20
    refine sw_eq (ws' := [(h0, .inr (10, [.ref b0, .ref b1, .int np, .int 0, .long hh])), (b0, .inl (G.2.1.2, 344, .inr (.inl S))), (b1, .inl (G.2.1.2, 1032, .inr (.inl P)))]) (lv' := [(0, .ref h0), (1, .int t), (2, .int 2)]) (st' := [.int r_18]) rfl rfl rfl ?_
    subst e_21
    subst e_12
    subst e_8
    subst e_4
    exact sw_iret (pc := 94) F T rfl rfl () (by unfold f_X10_transmitter_2_r; rw [if_neg c_13]) rfl dX10_transmitter_94
def f_X10_totalOf_2_r (S : Nat → Int64) : Int64 := (S 44)
set_option maxHeartbeats 4000000 in
set_option maxRecDepth 100000 in
theorem k_X10_totalOf_2 (l : Launch) (G : sw_E) (h0 : Nat) (b0 : Nat) (b1 : Nat) (np : Int32) (th : Int32) (hh : Int64) (S : Nat → Int64) (P : Nat → Int64)  : sw_M l G yX10_totalOf wsX10_totalOf ({ frames := 0, cells := 0, slots := 0, locals := 0 } : Room) [.ref h0, .int 2] [(h0, .inr (10, [.ref b0, .ref b1, .int np, .int th, .long hh])), (b0, .inl (G.2.1.2, 344, .inr (.inl S))), (b1, .inl (G.2.1.2, 1032, .inr (.inl P)))] (sw_QL G (S := Unit) (fun (r : Int64) (_ : Unit) => r = f_X10_totalOf_2_r S) (fun _ => [(h0, .inr (10, [.ref b0, .ref b1, .int np, .int th, .long hh])), (b0, .inl (G.2.1.2, 344, .inr (.inl S))), (b1, .inl (G.2.1.2, 1032, .inr (.inl P)))])) 0 0 := by
  refine sw_start (cc := cX10_totalOf) (maxL := 2) (ret := some .long) (lv := [(0, .ref h0), (1, .int 2)]) (own := RX10) (nm := "totalOf") (by decide +kernel) rfl rfl rfl rfl (Nat.le_of_ble_eq_true rfl) (fun C F T => ?_)
  have in10 : ∀ w ∈ u_ws RX10 TX10 5, w ∈ wsX10_totalOf := fun w h => List.mem_cons_of_mem _ (List.mem_append_right _ (h))
  refine sw_iload_n (pc := 0) F dX10_totalOf_0 rfl 1 rfl ?_
  refine sw_if_ne (pc := 1) (tgt := 14) F dX10_totalOf_1 (by decide) (fun _ => ?_) (fun c => absurd c (by decide))
  refine sw_iload_n (pc := 14) F dX10_totalOf_14 rfl 1 rfl ?_
  refine sw_iconst (pc := 15) (v := 1) F dX10_totalOf_15 rfl ?_
  refine sw_icmp_ne (pc := 16) (tgt := 29) F dX10_totalOf_16 (by decide) (fun _ => ?_) (fun c => absurd c (by decide))
  refine sw_iload_n (pc := 29) F dX10_totalOf_29 rfl 1 rfl ?_
  refine sw_iconst (pc := 30) (v := 2) F dX10_totalOf_30 rfl ?_
  refine sw_icmp_ne (pc := 31) (tgt := 44) F dX10_totalOf_31 (by decide) (fun c => absurd c (by decide)) (fun _ => ?_)
  refine sw_aload_n (pc := 34) F dX10_totalOf_34 rfl 0 rfl ?_
  refine sw_get (pc := 35) (Cn := RX10) (T := TX10) (N := 5) (ci := 10) (v := .ref b0) F in10 0 rfl rfl 0 (by decide) rfl (List.mem_of_getElem? (i := 1) rfl) rfl dX10_totalOf_35 ?_
  refine sw_bipush (pc := 38) (v := 44) F dX10_totalOf_38 rfl ?_
  refine sw_lald (pc := 40) F 1 rfl (sw_in rfl) dX10_totalOf_40 ?_
  refine sw_naml (e := S 44) rfl (fun x_1 ex_1 => ?_)
  refine sw_goto (pc := 41) (tgt := 51) F dX10_totalOf_41 (by decide) ?_
  subst ex_1
  exact sw_lret (pc := 51) F T () rfl rfl dX10_totalOf_51
def f_X10_total_2_r (S : Nat → Int64) : Int64 := (f_X10_totalOf_2_r S)
set_option maxHeartbeats 4000000 in
set_option maxRecDepth 100000 in
theorem k_X10_total_2 (l : Launch) (G : sw_E) (h0 : Nat) (b0 : Nat) (b1 : Nat) (np : Int32) (th : Int32) (hh : Int64) (S : Nat → Int64) (P : Nat → Int64)  : sw_M l G yX10_total wsX10_total ({ frames := 1, cells := 0, slots := 0, locals := 25 } : Room) [.ref h0, .int 2] [(h0, .inr (10, [.ref b0, .ref b1, .int np, .int th, .long hh])), (b0, .inl (G.2.1.2, 344, .inr (.inl S))), (b1, .inl (G.2.1.2, 1032, .inr (.inl P)))] (sw_QL G (S := Unit) (fun (r : Int64) (_ : Unit) => r = f_X10_total_2_r S) (fun _ => [(h0, .inr (10, [.ref b0, .ref b1, .int np, .int 0, .long hh])), (b0, .inl (G.2.1.2, 344, .inr (.inl S))), (b1, .inl (G.2.1.2, 1032, .inr (.inl P)))])) 0 0 := by
  refine sw_start (cc := cX10_total) (maxL := 2) (ret := some .long) (lv := [(0, .ref h0), (1, .int 2)]) (own := RX10) (nm := "total") (by decide +kernel) rfl rfl rfl rfl (Nat.le_of_ble_eq_true rfl) (fun C F T => ?_)
  have in10 : ∀ w ∈ u_ws RX10 TX10 5, w ∈ wsX10_total := fun w h => List.mem_cons_of_mem _ (List.mem_append_right _ (h))
  refine sw_iload_n (pc := 0) F dX10_total_0 rfl 1 rfl ?_
  refine sw_i2l (pc := 1) (v := 2) F dX10_total_1 rfl ?_
  refine sw_lconst (pc := 2) (v := 0) F dX10_total_2 rfl ?_
  refine sw_ldc2 (pc := 3) (v := 3) F (List.mem_of_getElem? (i := 1) rfl) dX10_total_3 ?_
  refine sw_calli (pc := 6) (wr := [(h0, .inr (10, [.ref b0, .ref b1, .int np, .int th, .long hh])), (b0, .inl (G.2.1.2, 344, .inr (.inl S))), (b1, .inl (G.2.1.2, 1032, .inr (.inl P)))]) (k' := 0) (n' := 0) F (sw_runS (R := ({ frames := 1, cells := 0, slots := 0, locals := 25 } : Room)) (na := 3) F T.2.1 T.2.2.1 (k_X10_in l G 2 0 3) [] rfl (by decide) gX10_total_X10_in rfl rfl rfl (by decide +kernel) ⟨Nat.le_of_ble_eq_true rfl, Nat.le_of_ble_eq_true rfl⟩ rfl rfl (Nat.le_of_ble_eq_true rfl) dX10_total_6 (Nat.le_of_ble_eq_true rfl) (Nat.le_of_ble_eq_true rfl)) [] [0, 1, 2] rfl rfl (by decide) (by decide) rfl rfl (fun r_1 u_2 h_3 => ?_)
  have e_4 : r_1 = f_X10_in_r 2 0 3 := h_3
  refine sw_eq (ws' := [(h0, .inr (10, [.ref b0, .ref b1, .int np, .int th, .long hh])), (b0, .inl (G.2.1.2, 344, .inr (.inl S))), (b1, .inl (G.2.1.2, 1032, .inr (.inl P)))]) (lv' := [(0, .ref h0), (1, .int 2)]) (st' := [.int r_1]) rfl rfl rfl ?_
  refine sw_if_ne (pc := 9) (tgt := 19) F dX10_total_9 (by decide) (fun _ => ?_) (fun c => absurd c (by rw [e_4]; exact (by decide)))
  refine sw_aload_n (pc := 19) F dX10_total_19 rfl 0 rfl ?_
  refine sw_iconst (pc := 20) (v := 0) F dX10_total_20 rfl ?_
  refine sw_put (pc := 21) (Cn := RX10) (T := TX10) (N := 5) (ci := 10) (ty0 := tyX10) (ws' := [(h0, .inr (10, [.ref b0, .ref b1, .int np, .int 0, .long hh])), (b0, .inl (G.2.1.2, 344, .inr (.inl S))), (b1, .inl (G.2.1.2, 1032, .inr (.inl P)))]) F in10 tyX10_ok nmX10 0 rfl rfl 3 (by decide) rfl (List.mem_of_getElem? (i := 2) rfl) rfl rfl rfl (Nat.le_of_ble_eq_true rfl) dX10_total_21 rfl ?_
  refine sw_aload_n (pc := 24) F dX10_total_24 rfl 0 rfl ?_
  refine sw_iload_n (pc := 25) F dX10_total_25 rfl 1 rfl ?_
  refine sw_calll (pc := 26) (wr := []) (k' := 0) (n' := 0) F (sw_runV (R := ({ frames := 1, cells := 0, slots := 0, locals := 25 } : Room)) (q0 := 0) (na := 1) F T.2.1 T.2.2.1 (k_X10_totalOf_2 l G h0 b0 b1 np 0 hh S P) [0, 1, 2] rfl (by decide) gX10_total_X10_totalOf rfl rfl rfl (by decide +kernel) ⟨Nat.le_of_ble_eq_true rfl, Nat.le_of_ble_eq_true rfl⟩ rfl rfl rfl rfl rfl (Nat.le_of_ble_eq_true rfl) dX10_total_26 (Nat.le_of_ble_eq_true rfl) (Nat.le_of_ble_eq_true rfl)) [0, 1, 2] [] rfl rfl (by decide) (by decide) rfl rfl (fun r_5 u_6 h_7 => ?_)
  have e_8 : r_5 = f_X10_totalOf_2_r S := h_7
  refine sw_eq (ws' := [(h0, .inr (10, [.ref b0, .ref b1, .int np, .int 0, .long hh])), (b0, .inl (G.2.1.2, 344, .inr (.inl S))), (b1, .inl (G.2.1.2, 1032, .inr (.inl P)))]) (lv' := [(0, .ref h0), (1, .int 2)]) (st' := [.long r_5]) rfl rfl rfl ?_
  subst e_8
  subst e_4
  exact sw_lret (pc := 29) F T () rfl rfl dX10_total_29
def f_X10_transmitter_3_r (S : Nat → Int64) (Nt : Nat) : Int32 := (f_X10_tells_r (S (14 + Nt)))
set_option maxHeartbeats 4000000 in
set_option maxRecDepth 100000 in
theorem k_X10_transmitter_3 (l : Launch) (G : sw_E) (h0 : Nat) (b0 : Nat) (b1 : Nat) (np : Int32) (th : Int32) (hh : Int64) (S : Nat → Int64) (P : Nat → Int64) (t : Int32) (Nt : Nat) (ht : t = nI Nt) (hNt : Nt < 4) : sw_M l G yX10_transmitter wsX10_transmitter ({ frames := 2, cells := 0, slots := 0, locals := 45 } : Room) [.ref h0, .int t, .int 3] [(h0, .inr (10, [.ref b0, .ref b1, .int np, .int th, .long hh])), (b0, .inl (G.2.1.2, 344, .inr (.inl S))), (b1, .inl (G.2.1.2, 1032, .inr (.inl P)))] (sw_QI G (S := Unit) (fun (r : Int32) (_ : Unit) => r = f_X10_transmitter_3_r S Nt) (fun _ => [(h0, .inr (10, [.ref b0, .ref b1, .int np, .int 0, .long hh])), (b0, .inl (G.2.1.2, 344, .inr (.inl S))), (b1, .inl (G.2.1.2, 1032, .inr (.inl P)))])) 0 0 := by
  refine sw_start (cc := cX10_transmitter) (maxL := 3) (ret := some .int) (lv := [(0, .ref h0), (1, .int t), (2, .int 3)]) (own := RX10) (nm := "transmitter") (by decide +kernel) rfl rfl rfl rfl (Nat.le_of_ble_eq_true rfl) (fun C F T => ?_)
  have in10 : ∀ w ∈ u_ws RX10 TX10 5, w ∈ wsX10_transmitter := fun w h => List.mem_cons_of_mem _ (List.mem_append_right _ (h))
  refine sw_iload_n (pc := 0) F dX10_transmitter_0 rfl 1 rfl ?_
  refine sw_calli (pc := 1) (wr := [(h0, .inr (10, [.ref b0, .ref b1, .int np, .int th, .long hh])), (b0, .inl (G.2.1.2, 344, .inr (.inl S))), (b1, .inl (G.2.1.2, 1032, .inr (.inl P)))]) (k' := 0) (n' := 0) F (sw_runS (R := ({ frames := 2, cells := 0, slots := 0, locals := 45 } : Room)) (na := 1) F T.2.1 T.2.2.1 (k_X10_isTransmitter l G t) [] rfl (by decide) gX10_transmitter_X10_isTransmitter rfl rfl rfl (by decide +kernel) ⟨Nat.le_of_ble_eq_true rfl, Nat.le_of_ble_eq_true rfl⟩ rfl rfl (Nat.le_of_ble_eq_true rfl) dX10_transmitter_1 (Nat.le_of_ble_eq_true rfl) (Nat.le_of_ble_eq_true rfl)) [] [0, 1, 2] rfl rfl (by decide) (by decide) rfl rfl (fun r_1 u_2 h_3 => ?_)
  have e_4 : r_1 = f_X10_isTransmitter_r t := h_3
  refine sw_eq (ws' := [(h0, .inr (10, [.ref b0, .ref b1, .int np, .int th, .long hh])), (b0, .inl (G.2.1.2, 344, .inr (.inl S))), (b1, .inl (G.2.1.2, 1032, .inr (.inl P)))]) (lv' := [(0, .ref h0), (1, .int t), (2, .int 3)]) (st' := [.int r_1]) rfl rfl rfl ?_
  refine sw_if_ne (pc := 4) (tgt := 13) F dX10_transmitter_4 (by decide) (fun _ => ?_) (fun c => absurd c (by rw [e_4]; exact isT_1 ht hNt))
  refine sw_iload_n (pc := 13) F dX10_transmitter_13 rfl 2 rfl ?_
  refine sw_i2l (pc := 14) (v := 3) F dX10_transmitter_14 rfl ?_
  refine sw_lconst (pc := 15) (v := 0) F dX10_transmitter_15 rfl ?_
  refine sw_ldc2 (pc := 16) (v := 3) F (List.mem_of_getElem? (i := 1) rfl) dX10_transmitter_16 ?_
  refine sw_calli (pc := 19) (wr := [(h0, .inr (10, [.ref b0, .ref b1, .int np, .int th, .long hh])), (b0, .inl (G.2.1.2, 344, .inr (.inl S))), (b1, .inl (G.2.1.2, 1032, .inr (.inl P)))]) (k' := 0) (n' := 0) F (sw_runS (R := ({ frames := 2, cells := 0, slots := 0, locals := 45 } : Room)) (na := 3) F T.2.1 T.2.2.1 (k_X10_in l G 3 0 3) [] rfl (by decide) gX10_transmitter_X10_in rfl rfl rfl (by decide +kernel) ⟨Nat.le_of_ble_eq_true rfl, Nat.le_of_ble_eq_true rfl⟩ rfl rfl (Nat.le_of_ble_eq_true rfl) dX10_transmitter_19 (Nat.le_of_ble_eq_true rfl) (Nat.le_of_ble_eq_true rfl)) [] [0, 1, 2] rfl rfl (by decide) (by decide) rfl rfl (fun r_5 u_6 h_7 => ?_)
  have e_8 : r_5 = f_X10_in_r 3 0 3 := h_7
  refine sw_eq (ws' := [(h0, .inr (10, [.ref b0, .ref b1, .int np, .int th, .long hh])), (b0, .inl (G.2.1.2, 344, .inr (.inl S))), (b1, .inl (G.2.1.2, 1032, .inr (.inl P)))]) (lv' := [(0, .ref h0), (1, .int t), (2, .int 3)]) (st' := [.int r_5]) rfl rfl rfl ?_
  refine sw_if_ne (pc := 22) (tgt := 31) F dX10_transmitter_22 (by decide) (fun _ => ?_) (fun c => absurd c (by rw [e_8]; exact (by decide)))
  refine sw_aload_n (pc := 31) F dX10_transmitter_31 rfl 0 rfl ?_
  refine sw_iload_n (pc := 32) F dX10_transmitter_32 rfl 2 rfl ?_
  refine sw_if_ne (pc := 33) (tgt := 44) F dX10_transmitter_33 (by decide) (fun _ => ?_) (fun c => absurd c (by decide))
  refine sw_iload_n (pc := 44) F dX10_transmitter_44 rfl 2 rfl ?_
  refine sw_iconst (pc := 45) (v := 1) F dX10_transmitter_45 rfl ?_
  refine sw_icmp_ne (pc := 46) (tgt := 61) F dX10_transmitter_46 (by decide) (fun _ => ?_) (fun c => absurd c (by decide))
  refine sw_iload_n (pc := 61) F dX10_transmitter_61 rfl 2 rfl ?_
  refine sw_iconst (pc := 62) (v := 2) F dX10_transmitter_62 rfl ?_
  refine sw_icmp_ne (pc := 63) (tgt := 82) F dX10_transmitter_63 (by decide) (fun _ => ?_) (fun c => absurd c (by decide))
  refine sw_aload_n (pc := 82) F dX10_transmitter_82 rfl 0 rfl ?_
  refine sw_get (pc := 83) (Cn := RX10) (T := TX10) (N := 5) (ci := 10) (v := .ref b0) F in10 0 rfl rfl 0 (by decide) rfl (List.mem_of_getElem? (i := 2) rfl) rfl dX10_transmitter_83 ?_
  refine sw_bipush (pc := 86) (v := 14) F dX10_transmitter_86 rfl ?_
  refine sw_iload_n (pc := 88) F dX10_transmitter_88 rfl 1 rfl ?_
  refine sw_iadd (pc := 89) F dX10_transmitter_89 ?_
  refine sw_topi (fun x_9 ex_9 => ?_)
  have ix_9 : x_9 = nI (14 + Nt) := by rw [ex_9, ht]; exact nI_add 14 Nt
  refine sw_lald (pc := 90) F 1 rfl (by rw [ix_9]; exact vp_in_nI (by omega) (by decide)) dX10_transmitter_90 ?_
  refine sw_naml (e := S (14 + Nt)) (by rw [(show x_9.toNatClampNeg = 14 + Nt by rw [ix_9]; exact nI_clamp (by omega))]) (fun x_10 ex_10 => ?_)
  refine sw_calli (pc := 91) (wr := []) (k' := 0) (n' := 0) F (sw_runV (R := ({ frames := 2, cells := 0, slots := 0, locals := 45 } : Room)) (q0 := 0) (na := 1) F T.2.1 T.2.2.1 (k_X10_tells l G h0 b0 b1 np th hh S P x_10) [0, 1, 2] rfl (by decide) gX10_transmitter_X10_tells rfl rfl rfl (by decide +kernel) ⟨Nat.le_of_ble_eq_true rfl, Nat.le_of_ble_eq_true rfl⟩ rfl rfl rfl rfl rfl (Nat.le_of_ble_eq_true rfl) dX10_transmitter_91 (Nat.le_of_ble_eq_true rfl) (Nat.le_of_ble_eq_true rfl)) [0, 1, 2] [] rfl rfl (by decide) (by decide) rfl rfl (fun r_11 u_12 h_13 => ?_)
  have e_14 : r_11 = f_X10_tells_r x_10 := h_13
  refine sw_eq (ws' := [(h0, .inr (10, [.ref b0, .ref b1, .int np, .int 0, .long hh])), (b0, .inl (G.2.1.2, 344, .inr (.inl S))), (b1, .inl (G.2.1.2, 1032, .inr (.inl P)))]) (lv' := [(0, .ref h0), (1, .int t), (2, .int 3)]) (st' := [.int r_11]) rfl rfl rfl ?_
  subst e_14
  subst ex_10
  subst ex_9
  subst e_8
  subst e_4
  exact sw_iret (pc := 94) F T rfl rfl () rfl rfl dX10_transmitter_94
def f_X10_totalOf_3_r (S : Nat → Int64) : Int64 := (S 50)
set_option maxHeartbeats 4000000 in
set_option maxRecDepth 100000 in
theorem k_X10_totalOf_3 (l : Launch) (G : sw_E) (h0 : Nat) (b0 : Nat) (b1 : Nat) (np : Int32) (th : Int32) (hh : Int64) (S : Nat → Int64) (P : Nat → Int64)  : sw_M l G yX10_totalOf wsX10_totalOf ({ frames := 0, cells := 0, slots := 0, locals := 0 } : Room) [.ref h0, .int 3] [(h0, .inr (10, [.ref b0, .ref b1, .int np, .int th, .long hh])), (b0, .inl (G.2.1.2, 344, .inr (.inl S))), (b1, .inl (G.2.1.2, 1032, .inr (.inl P)))] (sw_QL G (S := Unit) (fun (r : Int64) (_ : Unit) => r = f_X10_totalOf_3_r S) (fun _ => [(h0, .inr (10, [.ref b0, .ref b1, .int np, .int th, .long hh])), (b0, .inl (G.2.1.2, 344, .inr (.inl S))), (b1, .inl (G.2.1.2, 1032, .inr (.inl P)))])) 0 0 := by
  refine sw_start (cc := cX10_totalOf) (maxL := 2) (ret := some .long) (lv := [(0, .ref h0), (1, .int 3)]) (own := RX10) (nm := "totalOf") (by decide +kernel) rfl rfl rfl rfl (Nat.le_of_ble_eq_true rfl) (fun C F T => ?_)
  have in10 : ∀ w ∈ u_ws RX10 TX10 5, w ∈ wsX10_totalOf := fun w h => List.mem_cons_of_mem _ (List.mem_append_right _ (h))
  refine sw_iload_n (pc := 0) F dX10_totalOf_0 rfl 1 rfl ?_
  refine sw_if_ne (pc := 1) (tgt := 14) F dX10_totalOf_1 (by decide) (fun _ => ?_) (fun c => absurd c (by decide))
  refine sw_iload_n (pc := 14) F dX10_totalOf_14 rfl 1 rfl ?_
  refine sw_iconst (pc := 15) (v := 1) F dX10_totalOf_15 rfl ?_
  refine sw_icmp_ne (pc := 16) (tgt := 29) F dX10_totalOf_16 (by decide) (fun _ => ?_) (fun c => absurd c (by decide))
  refine sw_iload_n (pc := 29) F dX10_totalOf_29 rfl 1 rfl ?_
  refine sw_iconst (pc := 30) (v := 2) F dX10_totalOf_30 rfl ?_
  refine sw_icmp_ne (pc := 31) (tgt := 44) F dX10_totalOf_31 (by decide) (fun _ => ?_) (fun c => absurd c (by decide))
  refine sw_aload_n (pc := 44) F dX10_totalOf_44 rfl 0 rfl ?_
  refine sw_get (pc := 45) (Cn := RX10) (T := TX10) (N := 5) (ci := 10) (v := .ref b0) F in10 0 rfl rfl 0 (by decide) rfl (List.mem_of_getElem? (i := 1) rfl) rfl dX10_totalOf_45 ?_
  refine sw_bipush (pc := 48) (v := 50) F dX10_totalOf_48 rfl ?_
  refine sw_lald (pc := 50) F 1 rfl (sw_in rfl) dX10_totalOf_50 ?_
  refine sw_naml (e := S 50) rfl (fun x_1 ex_1 => ?_)
  subst ex_1
  exact sw_lret (pc := 51) F T () rfl rfl dX10_totalOf_51
def f_X10_total_3_r (S : Nat → Int64) : Int64 := (f_X10_totalOf_3_r S)
set_option maxHeartbeats 4000000 in
set_option maxRecDepth 100000 in
theorem k_X10_total_3 (l : Launch) (G : sw_E) (h0 : Nat) (b0 : Nat) (b1 : Nat) (np : Int32) (th : Int32) (hh : Int64) (S : Nat → Int64) (P : Nat → Int64)  : sw_M l G yX10_total wsX10_total ({ frames := 1, cells := 0, slots := 0, locals := 25 } : Room) [.ref h0, .int 3] [(h0, .inr (10, [.ref b0, .ref b1, .int np, .int th, .long hh])), (b0, .inl (G.2.1.2, 344, .inr (.inl S))), (b1, .inl (G.2.1.2, 1032, .inr (.inl P)))] (sw_QL G (S := Unit) (fun (r : Int64) (_ : Unit) => r = f_X10_total_3_r S) (fun _ => [(h0, .inr (10, [.ref b0, .ref b1, .int np, .int 0, .long hh])), (b0, .inl (G.2.1.2, 344, .inr (.inl S))), (b1, .inl (G.2.1.2, 1032, .inr (.inl P)))])) 0 0 := by
  refine sw_start (cc := cX10_total) (maxL := 2) (ret := some .long) (lv := [(0, .ref h0), (1, .int 3)]) (own := RX10) (nm := "total") (by decide +kernel) rfl rfl rfl rfl (Nat.le_of_ble_eq_true rfl) (fun C F T => ?_)
  have in10 : ∀ w ∈ u_ws RX10 TX10 5, w ∈ wsX10_total := fun w h => List.mem_cons_of_mem _ (List.mem_append_right _ (h))
  refine sw_iload_n (pc := 0) F dX10_total_0 rfl 1 rfl ?_
  refine sw_i2l (pc := 1) (v := 3) F dX10_total_1 rfl ?_
  refine sw_lconst (pc := 2) (v := 0) F dX10_total_2 rfl ?_
  refine sw_ldc2 (pc := 3) (v := 3) F (List.mem_of_getElem? (i := 1) rfl) dX10_total_3 ?_
  refine sw_calli (pc := 6) (wr := [(h0, .inr (10, [.ref b0, .ref b1, .int np, .int th, .long hh])), (b0, .inl (G.2.1.2, 344, .inr (.inl S))), (b1, .inl (G.2.1.2, 1032, .inr (.inl P)))]) (k' := 0) (n' := 0) F (sw_runS (R := ({ frames := 1, cells := 0, slots := 0, locals := 25 } : Room)) (na := 3) F T.2.1 T.2.2.1 (k_X10_in l G 3 0 3) [] rfl (by decide) gX10_total_X10_in rfl rfl rfl (by decide +kernel) ⟨Nat.le_of_ble_eq_true rfl, Nat.le_of_ble_eq_true rfl⟩ rfl rfl (Nat.le_of_ble_eq_true rfl) dX10_total_6 (Nat.le_of_ble_eq_true rfl) (Nat.le_of_ble_eq_true rfl)) [] [0, 1, 2] rfl rfl (by decide) (by decide) rfl rfl (fun r_1 u_2 h_3 => ?_)
  have e_4 : r_1 = f_X10_in_r 3 0 3 := h_3
  refine sw_eq (ws' := [(h0, .inr (10, [.ref b0, .ref b1, .int np, .int th, .long hh])), (b0, .inl (G.2.1.2, 344, .inr (.inl S))), (b1, .inl (G.2.1.2, 1032, .inr (.inl P)))]) (lv' := [(0, .ref h0), (1, .int 3)]) (st' := [.int r_1]) rfl rfl rfl ?_
  refine sw_if_ne (pc := 9) (tgt := 19) F dX10_total_9 (by decide) (fun _ => ?_) (fun c => absurd c (by rw [e_4]; exact (by decide)))
  refine sw_aload_n (pc := 19) F dX10_total_19 rfl 0 rfl ?_
  refine sw_iconst (pc := 20) (v := 0) F dX10_total_20 rfl ?_
  refine sw_put (pc := 21) (Cn := RX10) (T := TX10) (N := 5) (ci := 10) (ty0 := tyX10) (ws' := [(h0, .inr (10, [.ref b0, .ref b1, .int np, .int 0, .long hh])), (b0, .inl (G.2.1.2, 344, .inr (.inl S))), (b1, .inl (G.2.1.2, 1032, .inr (.inl P)))]) F in10 tyX10_ok nmX10 0 rfl rfl 3 (by decide) rfl (List.mem_of_getElem? (i := 2) rfl) rfl rfl rfl (Nat.le_of_ble_eq_true rfl) dX10_total_21 rfl ?_
  refine sw_aload_n (pc := 24) F dX10_total_24 rfl 0 rfl ?_
  refine sw_iload_n (pc := 25) F dX10_total_25 rfl 1 rfl ?_
  refine sw_calll (pc := 26) (wr := []) (k' := 0) (n' := 0) F (sw_runV (R := ({ frames := 1, cells := 0, slots := 0, locals := 25 } : Room)) (q0 := 0) (na := 1) F T.2.1 T.2.2.1 (k_X10_totalOf_3 l G h0 b0 b1 np 0 hh S P) [0, 1, 2] rfl (by decide) gX10_total_X10_totalOf rfl rfl rfl (by decide +kernel) ⟨Nat.le_of_ble_eq_true rfl, Nat.le_of_ble_eq_true rfl⟩ rfl rfl rfl rfl rfl (Nat.le_of_ble_eq_true rfl) dX10_total_26 (Nat.le_of_ble_eq_true rfl) (Nat.le_of_ble_eq_true rfl)) [0, 1, 2] [] rfl rfl (by decide) (by decide) rfl rfl (fun r_5 u_6 h_7 => ?_)
  have e_8 : r_5 = f_X10_totalOf_3_r S := h_7
  refine sw_eq (ws' := [(h0, .inr (10, [.ref b0, .ref b1, .int np, .int 0, .long hh])), (b0, .inl (G.2.1.2, 344, .inr (.inl S))), (b1, .inl (G.2.1.2, 1032, .inr (.inl P)))]) (lv' := [(0, .ref h0), (1, .int 3)]) (st' := [.long r_5]) rfl rfl rfl ?_
  subst e_8
  subst e_4
  exact sw_lret (pc := 29) F T () rfl rfl dX10_total_29
noncomputable def f_X10_flowFor_r (S : Nat → Int64) (p : Int32) (q : Int32) (s : Int32) : Int64 := (f_X10_flowBy_r S p.toInt64 q.toInt64 s.toInt64)
set_option maxHeartbeats 4000000 in
set_option maxRecDepth 100000 in
theorem k_X10_flowFor (l : Launch) (G : sw_E) (h0 : Nat) (b0 : Nat) (b1 : Nat) (np : Int32) (th : Int32) (hh : Int64) (S : Nat → Int64) (P : Nat → Int64) (p : Int32) (q : Int32) (s : Int32) (hp0 : ¬ p.toInt64 < 0) (hp1 : p.toInt64 ≤ 30000) (hq0 : ¬ q.toInt64 < 0) (hq1 : q.toInt64 ≤ 30000) (hr0 : ¬ s.toInt64 < (-500)) (hr1 : s.toInt64 ≤ 3000) (hK : 0 ≤ (S 2).toInt ∧ (S 2).toInt ≤ 100000) (hs0 : 0 ≤ ((100 * p.toInt64) * (f_X10_densityAt_r S q.toInt64 s.toInt64)).toInt) (hs1 : ((100 * p.toInt64) * (f_X10_densityAt_r S q.toInt64 s.toInt64)).toInt < 70368744177664) (hda : 0 ≤ (p.toInt64).toInt ∧ (p.toInt64).toInt ≤ 30000) (hpb : (q.toInt64).toInt ≤ 1000000) (hbd : -1000000 ≤ (s.toInt64).toInt ∧ (s.toInt64).toInt ≤ 1000000) : sw_M l G yX10_flowFor wsX10_flowFor ({ frames := 3, cells := 0, slots := 0, locals := 81 } : Room) [.ref h0, .int p, .int q, .int s] [(h0, .inr (10, [.ref b0, .ref b1, .int np, .int th, .long hh])), (b0, .inl (G.2.1.2, 344, .inr (.inl S))), (b1, .inl (G.2.1.2, 1032, .inr (.inl P)))] (sw_QL G (S := Unit) (fun (r : Int64) (_ : Unit) => r = f_X10_flowFor_r S p q s) (fun _ => [(h0, .inr (10, [.ref b0, .ref b1, .int np, .int 0, .long hh])), (b0, .inl (G.2.1.2, 344, .inr (.inl S))), (b1, .inl (G.2.1.2, 1032, .inr (.inl P)))])) 0 0 := by
  refine sw_start (cc := cX10_flowFor) (maxL := 4) (ret := some .long) (lv := [(0, .ref h0), (1, .int p), (2, .int q), (3, .int s)]) (own := RX10) (nm := "flowFor") (by decide +kernel) rfl rfl rfl rfl (Nat.le_of_ble_eq_true rfl) (fun C F T => ?_)
  have in10 : ∀ w ∈ u_ws RX10 TX10 5, w ∈ wsX10_flowFor := fun w h => List.mem_cons_of_mem _ (List.mem_append_right _ (h))
  refine sw_iload_n (pc := 0) F dX10_flowFor_0 rfl 1 rfl ?_
  refine sw_i2l (pc := 1) F dX10_flowFor_1 rfl ?_
  refine sw_lconst (pc := 2) (v := 0) F dX10_flowFor_2 rfl ?_
  refine sw_ldc2 (pc := 3) (v := 30000) F (List.mem_of_getElem? (i := 1) rfl) dX10_flowFor_3 ?_
  refine sw_calli (pc := 6) (wr := [(h0, .inr (10, [.ref b0, .ref b1, .int np, .int th, .long hh])), (b0, .inl (G.2.1.2, 344, .inr (.inl S))), (b1, .inl (G.2.1.2, 1032, .inr (.inl P)))]) (k' := 0) (n' := 0) F (sw_runS (R := ({ frames := 3, cells := 0, slots := 0, locals := 81 } : Room)) (na := 3) F T.2.1 T.2.2.1 (k_X10_in l G p.toInt64 0 30000) [] rfl (by decide) gX10_flowFor_X10_in rfl rfl rfl (by decide +kernel) ⟨Nat.le_of_ble_eq_true rfl, Nat.le_of_ble_eq_true rfl⟩ rfl rfl (Nat.le_of_ble_eq_true rfl) dX10_flowFor_6 (Nat.le_of_ble_eq_true rfl) (Nat.le_of_ble_eq_true rfl)) [] [0, 1, 2] rfl rfl (by decide) (by decide) rfl rfl (fun r_1 u_2 h_3 => ?_)
  have e_4 : r_1 = f_X10_in_r p.toInt64 0 30000 := h_3
  refine sw_eq (ws' := [(h0, .inr (10, [.ref b0, .ref b1, .int np, .int th, .long hh])), (b0, .inl (G.2.1.2, 344, .inr (.inl S))), (b1, .inl (G.2.1.2, 1032, .inr (.inl P)))]) (lv' := [(0, .ref h0), (1, .int p), (2, .int q), (3, .int s)]) (st' := [.int r_1]) rfl rfl rfl ?_
  refine sw_if_eq (pc := 9) (tgt := 38) F dX10_flowFor_9 (by decide) (fun c => absurd c (by rw [e_4]; exact in_1 (by assumption) (by assumption))) (fun _ => ?_)
  refine sw_iload_n (pc := 12) F dX10_flowFor_12 rfl 2 rfl ?_
  refine sw_i2l (pc := 13) F dX10_flowFor_13 rfl ?_
  refine sw_lconst (pc := 14) (v := 0) F dX10_flowFor_14 rfl ?_
  refine sw_ldc2 (pc := 15) (v := 30000) F (List.mem_of_getElem? (i := 1) rfl) dX10_flowFor_15 ?_
  refine sw_calli (pc := 18) (wr := [(h0, .inr (10, [.ref b0, .ref b1, .int np, .int th, .long hh])), (b0, .inl (G.2.1.2, 344, .inr (.inl S))), (b1, .inl (G.2.1.2, 1032, .inr (.inl P)))]) (k' := 0) (n' := 0) F (sw_runS (R := ({ frames := 3, cells := 0, slots := 0, locals := 81 } : Room)) (na := 3) F T.2.1 T.2.2.1 (k_X10_in l G q.toInt64 0 30000) [] rfl (by decide) gX10_flowFor_X10_in rfl rfl rfl (by decide +kernel) ⟨Nat.le_of_ble_eq_true rfl, Nat.le_of_ble_eq_true rfl⟩ rfl rfl (Nat.le_of_ble_eq_true rfl) dX10_flowFor_18 (Nat.le_of_ble_eq_true rfl) (Nat.le_of_ble_eq_true rfl)) [] [0, 1, 2] rfl rfl (by decide) (by decide) rfl rfl (fun r_5 u_6 h_7 => ?_)
  have e_8 : r_5 = f_X10_in_r q.toInt64 0 30000 := h_7
  refine sw_eq (ws' := [(h0, .inr (10, [.ref b0, .ref b1, .int np, .int th, .long hh])), (b0, .inl (G.2.1.2, 344, .inr (.inl S))), (b1, .inl (G.2.1.2, 1032, .inr (.inl P)))]) (lv' := [(0, .ref h0), (1, .int p), (2, .int q), (3, .int s)]) (st' := [.int r_5]) rfl rfl rfl ?_
  refine sw_if_eq (pc := 21) (tgt := 38) F dX10_flowFor_21 (by decide) (fun c => absurd c (by rw [e_8]; exact in_1 (by assumption) (by assumption))) (fun _ => ?_)
  refine sw_iload_n (pc := 24) F dX10_flowFor_24 rfl 3 rfl ?_
  refine sw_i2l (pc := 25) F dX10_flowFor_25 rfl ?_
  refine sw_ldc2 (pc := 26) (v := (-500)) F (List.mem_of_getElem? (i := 2) rfl) dX10_flowFor_26 ?_
  refine sw_ldc2 (pc := 29) (v := 3000) F (List.mem_of_getElem? (i := 3) rfl) dX10_flowFor_29 ?_
  refine sw_calli (pc := 32) (wr := [(h0, .inr (10, [.ref b0, .ref b1, .int np, .int th, .long hh])), (b0, .inl (G.2.1.2, 344, .inr (.inl S))), (b1, .inl (G.2.1.2, 1032, .inr (.inl P)))]) (k' := 0) (n' := 0) F (sw_runS (R := ({ frames := 3, cells := 0, slots := 0, locals := 81 } : Room)) (na := 3) F T.2.1 T.2.2.1 (k_X10_in l G s.toInt64 (-500) 3000) [] rfl (by decide) gX10_flowFor_X10_in rfl rfl rfl (by decide +kernel) ⟨Nat.le_of_ble_eq_true rfl, Nat.le_of_ble_eq_true rfl⟩ rfl rfl (Nat.le_of_ble_eq_true rfl) dX10_flowFor_32 (Nat.le_of_ble_eq_true rfl) (Nat.le_of_ble_eq_true rfl)) [] [0, 1, 2] rfl rfl (by decide) (by decide) rfl rfl (fun r_9 u_10 h_11 => ?_)
  have e_12 : r_9 = f_X10_in_r s.toInt64 (-500) 3000 := h_11
  refine sw_eq (ws' := [(h0, .inr (10, [.ref b0, .ref b1, .int np, .int th, .long hh])), (b0, .inl (G.2.1.2, 344, .inr (.inl S))), (b1, .inl (G.2.1.2, 1032, .inr (.inl P)))]) (lv' := [(0, .ref h0), (1, .int p), (2, .int q), (3, .int s)]) (st' := [.int r_9]) rfl rfl rfl ?_
  refine sw_if_ne (pc := 35) (tgt := 45) F dX10_flowFor_35 (by decide) (fun _ => ?_) (fun c => absurd c (by rw [e_12]; exact in_1 (by assumption) (by assumption)))
  refine sw_aload_n (pc := 45) F dX10_flowFor_45 rfl 0 rfl ?_
  refine sw_iconst (pc := 46) (v := 0) F dX10_flowFor_46 rfl ?_
  refine sw_put (pc := 47) (Cn := RX10) (T := TX10) (N := 5) (ci := 10) (ty0 := tyX10) (ws' := [(h0, .inr (10, [.ref b0, .ref b1, .int np, .int 0, .long hh])), (b0, .inl (G.2.1.2, 344, .inr (.inl S))), (b1, .inl (G.2.1.2, 1032, .inr (.inl P)))]) F in10 tyX10_ok nmX10 0 rfl rfl 3 (by decide) rfl (List.mem_of_getElem? (i := 4) rfl) rfl rfl rfl (Nat.le_of_ble_eq_true rfl) dX10_flowFor_47 rfl ?_
  refine sw_aload_n (pc := 50) F dX10_flowFor_50 rfl 0 rfl ?_
  refine sw_iload_n (pc := 51) F dX10_flowFor_51 rfl 1 rfl ?_
  refine sw_i2l (pc := 52) F dX10_flowFor_52 rfl ?_
  refine sw_iload_n (pc := 53) F dX10_flowFor_53 rfl 2 rfl ?_
  refine sw_i2l (pc := 54) F dX10_flowFor_54 rfl ?_
  refine sw_iload_n (pc := 55) F dX10_flowFor_55 rfl 3 rfl ?_
  refine sw_i2l (pc := 56) F dX10_flowFor_56 rfl ?_
  refine sw_calll (pc := 57) (wr := []) (k' := 0) (n' := 0) F (sw_runV (R := ({ frames := 3, cells := 0, slots := 0, locals := 81 } : Room)) (q0 := 0) (na := 3) F T.2.1 T.2.2.1 (k_X10_flowBy l G h0 b0 b1 np 0 hh S P p.toInt64 q.toInt64 s.toInt64 (by assumption) (by assumption) (by assumption) (by assumption) (by assumption) (by assumption)) [0, 1, 2] rfl (by decide) gX10_flowFor_X10_flowBy rfl rfl rfl (by decide +kernel) ⟨Nat.le_of_ble_eq_true rfl, Nat.le_of_ble_eq_true rfl⟩ rfl rfl rfl rfl rfl (Nat.le_of_ble_eq_true rfl) dX10_flowFor_57 (Nat.le_of_ble_eq_true rfl) (Nat.le_of_ble_eq_true rfl)) [0, 1, 2] [] rfl rfl (by decide) (by decide) rfl rfl (fun r_13 u_14 h_15 => ?_)
  have e_16 : r_13 = f_X10_flowBy_r S p.toInt64 q.toInt64 s.toInt64 := h_15
  refine sw_eq (ws' := [(h0, .inr (10, [.ref b0, .ref b1, .int np, .int 0, .long hh])), (b0, .inl (G.2.1.2, 344, .inr (.inl S))), (b1, .inl (G.2.1.2, 1032, .inr (.inl P)))]) (lv' := [(0, .ref h0), (1, .int p), (2, .int q), (3, .int s)]) (st' := [.long r_13]) rfl rfl rfl ?_
  subst e_16
  subst e_12
  subst e_8
  subst e_4
  exact sw_lret (pc := 60) F T () rfl rfl dX10_flowFor_60
def f_X10_record_hour_r (S : Nat → Int64) (Ni : Nat) (Nj : Nat) : Int64 := (S ((64 + (7 * Ni)) + Nj))
set_option maxHeartbeats 4000000 in
set_option maxRecDepth 100000 in
theorem k_X10_record_hour (l : Launch) (G : sw_E) (h0 : Nat) (b0 : Nat) (b1 : Nat) (np : Int32) (th : Int32) (hh : Int64) (S : Nat → Int64) (P : Nat → Int64) (i : Int32) (Ni : Nat) (j : Int32) (Nj : Nat) (hi : i = nI Ni) (hNi : Ni < 24) (hj : j = nI Nj) (hNj : Nj < 7) (hi0 : ¬ i.toInt64 < 0) (hi1 : i.toInt64 ≤ (S 63 - 1)) (hj0 : ¬ j.toInt64 < 0) (hj1 : j.toInt64 ≤ 6) : sw_M l G yX10_record wsX10_record ({ frames := 1, cells := 0, slots := 0, locals := 25 } : Room) [.ref h0, .int 63, .int 7, .int i, .int j] [(h0, .inr (10, [.ref b0, .ref b1, .int np, .int th, .long hh])), (b0, .inl (G.2.1.2, 344, .inr (.inl S))), (b1, .inl (G.2.1.2, 1032, .inr (.inl P)))] (sw_QL G (S := Unit) (fun (r : Int64) (_ : Unit) => r = f_X10_record_hour_r S Ni Nj) (fun _ => [(h0, .inr (10, [.ref b0, .ref b1, .int np, .int 0, .long hh])), (b0, .inl (G.2.1.2, 344, .inr (.inl S))), (b1, .inl (G.2.1.2, 1032, .inr (.inl P)))])) 0 0 := by
  refine sw_start (cc := cX10_record) (maxL := 5) (ret := some .long) (lv := [(0, .ref h0), (1, .int 63), (2, .int 7), (3, .int i), (4, .int j)]) (own := RX10) (nm := "record") (by decide +kernel) rfl rfl rfl rfl (Nat.le_of_ble_eq_true rfl) (fun C F T => ?_)
  have in10 : ∀ w ∈ u_ws RX10 TX10 5, w ∈ wsX10_record := fun w h => List.mem_cons_of_mem _ (List.mem_append_right _ (h))
  refine sw_iload_n (pc := 0) F dX10_record_0 rfl 3 rfl ?_
  refine sw_i2l (pc := 1) F dX10_record_1 rfl ?_
  refine sw_lconst (pc := 2) (v := 0) F dX10_record_2 rfl ?_
  refine sw_aload_n (pc := 3) F dX10_record_3 rfl 0 rfl ?_
  refine sw_get (pc := 4) (Cn := RX10) (T := TX10) (N := 5) (ci := 10) (v := .ref b0) F in10 0 rfl rfl 0 (by decide) rfl (List.mem_of_getElem? (i := 1) rfl) rfl dX10_record_4 ?_
  refine sw_iload_n (pc := 7) F dX10_record_7 rfl 1 rfl ?_
  refine sw_lald (pc := 8) F 1 rfl (sw_in rfl) dX10_record_8 ?_
  refine sw_naml (e := S 63) rfl (fun x_1 ex_1 => ?_)
  refine sw_lconst (pc := 9) (v := 1) F dX10_record_9 rfl ?_
  refine sw_lsub (pc := 10) F dX10_record_10 ?_
  refine sw_topl (fun x_2 ex_2 => ?_)
  refine sw_calli (pc := 11) (wr := [(h0, .inr (10, [.ref b0, .ref b1, .int np, .int th, .long hh])), (b0, .inl (G.2.1.2, 344, .inr (.inl S))), (b1, .inl (G.2.1.2, 1032, .inr (.inl P)))]) (k' := 0) (n' := 0) F (sw_runS (R := ({ frames := 1, cells := 0, slots := 0, locals := 25 } : Room)) (na := 3) F T.2.1 T.2.2.1 (k_X10_in l G i.toInt64 0 x_2) [] rfl (by decide) gX10_record_X10_in rfl rfl rfl (by decide +kernel) ⟨Nat.le_of_ble_eq_true rfl, Nat.le_of_ble_eq_true rfl⟩ rfl rfl (Nat.le_of_ble_eq_true rfl) dX10_record_11 (Nat.le_of_ble_eq_true rfl) (Nat.le_of_ble_eq_true rfl)) [] [0, 1, 2] rfl rfl (by decide) (by decide) rfl rfl (fun r_3 u_4 h_5 => ?_)
  have e_6 : r_3 = f_X10_in_r i.toInt64 0 x_2 := h_5
  refine sw_eq (ws' := [(h0, .inr (10, [.ref b0, .ref b1, .int np, .int th, .long hh])), (b0, .inl (G.2.1.2, 344, .inr (.inl S))), (b1, .inl (G.2.1.2, 1032, .inr (.inl P)))]) (lv' := [(0, .ref h0), (1, .int 63), (2, .int 7), (3, .int i), (4, .int j)]) (st' := [.int r_3]) rfl rfl rfl ?_
  refine sw_if_ne (pc := 14) (tgt := 24) F dX10_record_14 (by decide) (fun _ => ?_) (fun c => absurd c (by rw [e_6]; exact (by subst_vars; exact in_1 hi0 hi1)))
  refine sw_iload (pc := 24) F dX10_record_24 4 rfl ?_
  refine sw_i2l (pc := 26) F dX10_record_26 rfl ?_
  refine sw_lconst (pc := 27) (v := 0) F dX10_record_27 rfl ?_
  refine sw_iload_n (pc := 28) F dX10_record_28 rfl 2 rfl ?_
  refine sw_iconst (pc := 29) (v := 1) F dX10_record_29 rfl ?_
  refine sw_isub (pc := 30) F dX10_record_30 ?_
  refine sw_eqt (v := .int 6) (by rfl) ?_
  refine sw_i2l (pc := 31) (v := 6) F dX10_record_31 rfl ?_
  refine sw_calli (pc := 32) (wr := [(h0, .inr (10, [.ref b0, .ref b1, .int np, .int th, .long hh])), (b0, .inl (G.2.1.2, 344, .inr (.inl S))), (b1, .inl (G.2.1.2, 1032, .inr (.inl P)))]) (k' := 0) (n' := 0) F (sw_runS (R := ({ frames := 1, cells := 0, slots := 0, locals := 25 } : Room)) (na := 3) F T.2.1 T.2.2.1 (k_X10_in l G j.toInt64 0 6) [] rfl (by decide) gX10_record_X10_in rfl rfl rfl (by decide +kernel) ⟨Nat.le_of_ble_eq_true rfl, Nat.le_of_ble_eq_true rfl⟩ rfl rfl (Nat.le_of_ble_eq_true rfl) dX10_record_32 (Nat.le_of_ble_eq_true rfl) (Nat.le_of_ble_eq_true rfl)) [] [0, 1, 2] rfl rfl (by decide) (by decide) rfl rfl (fun r_7 u_8 h_9 => ?_)
  have e_10 : r_7 = f_X10_in_r j.toInt64 0 6 := h_9
  refine sw_eq (ws' := [(h0, .inr (10, [.ref b0, .ref b1, .int np, .int th, .long hh])), (b0, .inl (G.2.1.2, 344, .inr (.inl S))), (b1, .inl (G.2.1.2, 1032, .inr (.inl P)))]) (lv' := [(0, .ref h0), (1, .int 63), (2, .int 7), (3, .int i), (4, .int j)]) (st' := [.int r_7]) rfl rfl rfl ?_
  refine sw_if_ne (pc := 35) (tgt := 45) F dX10_record_35 (by decide) (fun _ => ?_) (fun c => absurd c (by rw [e_10]; exact in_1 (by assumption) (by assumption)))
  refine sw_aload_n (pc := 45) F dX10_record_45 rfl 0 rfl ?_
  refine sw_iconst (pc := 46) (v := 0) F dX10_record_46 rfl ?_
  refine sw_put (pc := 47) (Cn := RX10) (T := TX10) (N := 5) (ci := 10) (ty0 := tyX10) (ws' := [(h0, .inr (10, [.ref b0, .ref b1, .int np, .int 0, .long hh])), (b0, .inl (G.2.1.2, 344, .inr (.inl S))), (b1, .inl (G.2.1.2, 1032, .inr (.inl P)))]) F in10 tyX10_ok nmX10 0 rfl rfl 3 (by decide) rfl (List.mem_of_getElem? (i := 2) rfl) rfl rfl rfl (Nat.le_of_ble_eq_true rfl) dX10_record_47 rfl ?_
  refine sw_aload_n (pc := 50) F dX10_record_50 rfl 0 rfl ?_
  refine sw_get (pc := 51) (Cn := RX10) (T := TX10) (N := 5) (ci := 10) (v := .ref b0) F in10 0 rfl rfl 0 (by decide) rfl (List.mem_of_getElem? (i := 1) rfl) rfl dX10_record_51 ?_
  refine sw_iload_n (pc := 54) F dX10_record_54 rfl 1 rfl ?_
  refine sw_iconst (pc := 55) (v := 1) F dX10_record_55 rfl ?_
  refine sw_iadd (pc := 56) F dX10_record_56 ?_
  refine sw_eqt (v := .int 64) (by rfl) ?_
  refine sw_iload_n (pc := 57) F dX10_record_57 rfl 2 rfl ?_
  refine sw_iload_n (pc := 58) F dX10_record_58 rfl 3 rfl ?_
  refine sw_imul (pc := 59) F dX10_record_59 ?_
  refine sw_topi (fun x_11 ex_11 => ?_)
  have ix_11 : x_11 = nI (7 * Ni) := by rw [ex_11, hi]; exact pk_mul 7 Ni
  refine sw_iadd (pc := 60) F dX10_record_60 ?_
  refine sw_topi (fun x_12 ex_12 => ?_)
  have ix_12 : x_12 = nI (64 + (7 * Ni)) := by rw [ex_12, ix_11]; exact nI_add 64 (7 * Ni)
  refine sw_iload (pc := 61) F dX10_record_61 4 rfl ?_
  refine sw_iadd (pc := 63) F dX10_record_63 ?_
  refine sw_topi (fun x_13 ex_13 => ?_)
  have ix_13 : x_13 = nI ((64 + (7 * Ni)) + Nj) := by rw [ex_13, ix_12, hj]; exact nI_add (64 + (7 * Ni)) Nj
  refine sw_lald (pc := 64) F 1 rfl (by rw [ix_13]; exact vp_in_nI (by omega) (by decide)) dX10_record_64 ?_
  refine sw_naml (e := S ((64 + (7 * Ni)) + Nj)) (by rw [(show x_13.toNatClampNeg = (64 + (7 * Ni)) + Nj by rw [ix_13]; exact nI_clamp (by omega))]) (fun x_14 ex_14 => ?_)
  subst ex_14
  subst ex_13
  subst ex_12
  subst ex_11
  subst e_10
  subst e_6
  subst ex_2
  subst ex_1
  exact sw_lret (pc := 65) F T () rfl rfl dX10_record_65
def f_X10_hour_r (S : Nat → Int64) (Ni : Nat) (Nj : Nat) : Int64 := (f_X10_record_hour_r S Ni Nj)
set_option maxHeartbeats 4000000 in
set_option maxRecDepth 100000 in
theorem k_X10_hour (l : Launch) (G : sw_E) (h0 : Nat) (b0 : Nat) (b1 : Nat) (np : Int32) (th : Int32) (hh : Int64) (S : Nat → Int64) (P : Nat → Int64) (i : Int32) (Ni : Nat) (j : Int32) (Nj : Nat) (hi : i = nI Ni) (hNi : Ni < 24) (hj : j = nI Nj) (hNj : Nj < 7) (hi0 : ¬ i.toInt64 < 0) (hi1 : i.toInt64 ≤ (S 63 - 1)) (hj0 : ¬ j.toInt64 < 0) (hj1 : j.toInt64 ≤ 6) : sw_M l G yX10_hour wsX10_hour ({ frames := 2, cells := 0, slots := 0, locals := 49 } : Room) [.ref h0, .int i, .int j] [(h0, .inr (10, [.ref b0, .ref b1, .int np, .int th, .long hh])), (b0, .inl (G.2.1.2, 344, .inr (.inl S))), (b1, .inl (G.2.1.2, 1032, .inr (.inl P)))] (sw_QL G (S := Unit) (fun (r : Int64) (_ : Unit) => r = f_X10_hour_r S Ni Nj) (fun _ => [(h0, .inr (10, [.ref b0, .ref b1, .int np, .int 0, .long hh])), (b0, .inl (G.2.1.2, 344, .inr (.inl S))), (b1, .inl (G.2.1.2, 1032, .inr (.inl P)))])) 0 0 := by
  refine sw_start (cc := cX10_hour) (maxL := 3) (ret := some .long) (lv := [(0, .ref h0), (1, .int i), (2, .int j)]) (own := RX10) (nm := "hour") (by decide +kernel) rfl rfl rfl rfl (Nat.le_of_ble_eq_true rfl) (fun C F T => ?_)
  refine sw_aload_n (pc := 0) F dX10_hour_0 rfl 0 rfl ?_
  refine sw_bipush (pc := 1) (v := 63) F dX10_hour_1 rfl ?_
  refine sw_bipush (pc := 3) (v := 7) F dX10_hour_3 rfl ?_
  refine sw_iload_n (pc := 5) F dX10_hour_5 rfl 1 rfl ?_
  refine sw_iload_n (pc := 6) F dX10_hour_6 rfl 2 rfl ?_
  refine sw_calll (pc := 7) (wr := []) (k' := 0) (n' := 0) F (sw_runV (R := ({ frames := 2, cells := 0, slots := 0, locals := 49 } : Room)) (q0 := 0) (na := 4) F T.2.1 T.2.2.1 (k_X10_record_hour l G h0 b0 b1 np th hh S P i Ni j Nj hi (by omega) hj (by omega) (by assumption) (by assumption) (by assumption) (by assumption)) [0, 1, 2] rfl (by decide) gX10_hour_X10_record rfl rfl rfl (by decide +kernel) ⟨Nat.le_of_ble_eq_true rfl, Nat.le_of_ble_eq_true rfl⟩ rfl rfl rfl rfl rfl (Nat.le_of_ble_eq_true rfl) dX10_hour_7 (Nat.le_of_ble_eq_true rfl) (Nat.le_of_ble_eq_true rfl)) [0, 1, 2] [] rfl rfl (by decide) (by decide) rfl rfl (fun r_1 u_2 h_3 => ?_)
  have e_4 : r_1 = f_X10_record_hour_r S Ni Nj := h_3
  refine sw_eq (ws' := [(h0, .inr (10, [.ref b0, .ref b1, .int np, .int 0, .long hh])), (b0, .inl (G.2.1.2, 344, .inr (.inl S))), (b1, .inl (G.2.1.2, 1032, .inr (.inl P)))]) (lv' := [(0, .ref h0), (1, .int i), (2, .int j)]) (st' := [.long r_1]) rfl rfl rfl ?_
  subst e_4
  exact sw_lret (pc := 10) F T () rfl rfl dX10_hour_10
def f_X10_record_day_r (S : Nat → Int64) (Ni : Nat) (Nj : Nat) : Int64 := (S ((233 + (4 * Ni)) + Nj))
set_option maxHeartbeats 4000000 in
set_option maxRecDepth 100000 in
theorem k_X10_record_day (l : Launch) (G : sw_E) (h0 : Nat) (b0 : Nat) (b1 : Nat) (np : Int32) (th : Int32) (hh : Int64) (S : Nat → Int64) (P : Nat → Int64) (i : Int32) (Ni : Nat) (j : Int32) (Nj : Nat) (hi : i = nI Ni) (hNi : Ni < 5) (hj : j = nI Nj) (hNj : Nj < 4) (hi0 : ¬ i.toInt64 < 0) (hi1 : i.toInt64 ≤ (S 232 - 1)) (hj0 : ¬ j.toInt64 < 0) (hj1 : j.toInt64 ≤ 3) : sw_M l G yX10_record wsX10_record ({ frames := 1, cells := 0, slots := 0, locals := 25 } : Room) [.ref h0, .int 232, .int 4, .int i, .int j] [(h0, .inr (10, [.ref b0, .ref b1, .int np, .int th, .long hh])), (b0, .inl (G.2.1.2, 344, .inr (.inl S))), (b1, .inl (G.2.1.2, 1032, .inr (.inl P)))] (sw_QL G (S := Unit) (fun (r : Int64) (_ : Unit) => r = f_X10_record_day_r S Ni Nj) (fun _ => [(h0, .inr (10, [.ref b0, .ref b1, .int np, .int 0, .long hh])), (b0, .inl (G.2.1.2, 344, .inr (.inl S))), (b1, .inl (G.2.1.2, 1032, .inr (.inl P)))])) 0 0 := by
  refine sw_start (cc := cX10_record) (maxL := 5) (ret := some .long) (lv := [(0, .ref h0), (1, .int 232), (2, .int 4), (3, .int i), (4, .int j)]) (own := RX10) (nm := "record") (by decide +kernel) rfl rfl rfl rfl (Nat.le_of_ble_eq_true rfl) (fun C F T => ?_)
  have in10 : ∀ w ∈ u_ws RX10 TX10 5, w ∈ wsX10_record := fun w h => List.mem_cons_of_mem _ (List.mem_append_right _ (h))
  refine sw_iload_n (pc := 0) F dX10_record_0 rfl 3 rfl ?_
  refine sw_i2l (pc := 1) F dX10_record_1 rfl ?_
  refine sw_lconst (pc := 2) (v := 0) F dX10_record_2 rfl ?_
  refine sw_aload_n (pc := 3) F dX10_record_3 rfl 0 rfl ?_
  refine sw_get (pc := 4) (Cn := RX10) (T := TX10) (N := 5) (ci := 10) (v := .ref b0) F in10 0 rfl rfl 0 (by decide) rfl (List.mem_of_getElem? (i := 1) rfl) rfl dX10_record_4 ?_
  refine sw_iload_n (pc := 7) F dX10_record_7 rfl 1 rfl ?_
  refine sw_lald (pc := 8) F 1 rfl (sw_in rfl) dX10_record_8 ?_
  refine sw_naml (e := S 232) rfl (fun x_1 ex_1 => ?_)
  refine sw_lconst (pc := 9) (v := 1) F dX10_record_9 rfl ?_
  refine sw_lsub (pc := 10) F dX10_record_10 ?_
  refine sw_topl (fun x_2 ex_2 => ?_)
  refine sw_calli (pc := 11) (wr := [(h0, .inr (10, [.ref b0, .ref b1, .int np, .int th, .long hh])), (b0, .inl (G.2.1.2, 344, .inr (.inl S))), (b1, .inl (G.2.1.2, 1032, .inr (.inl P)))]) (k' := 0) (n' := 0) F (sw_runS (R := ({ frames := 1, cells := 0, slots := 0, locals := 25 } : Room)) (na := 3) F T.2.1 T.2.2.1 (k_X10_in l G i.toInt64 0 x_2) [] rfl (by decide) gX10_record_X10_in rfl rfl rfl (by decide +kernel) ⟨Nat.le_of_ble_eq_true rfl, Nat.le_of_ble_eq_true rfl⟩ rfl rfl (Nat.le_of_ble_eq_true rfl) dX10_record_11 (Nat.le_of_ble_eq_true rfl) (Nat.le_of_ble_eq_true rfl)) [] [0, 1, 2] rfl rfl (by decide) (by decide) rfl rfl (fun r_3 u_4 h_5 => ?_)
  have e_6 : r_3 = f_X10_in_r i.toInt64 0 x_2 := h_5
  refine sw_eq (ws' := [(h0, .inr (10, [.ref b0, .ref b1, .int np, .int th, .long hh])), (b0, .inl (G.2.1.2, 344, .inr (.inl S))), (b1, .inl (G.2.1.2, 1032, .inr (.inl P)))]) (lv' := [(0, .ref h0), (1, .int 232), (2, .int 4), (3, .int i), (4, .int j)]) (st' := [.int r_3]) rfl rfl rfl ?_
  refine sw_if_ne (pc := 14) (tgt := 24) F dX10_record_14 (by decide) (fun _ => ?_) (fun c => absurd c (by rw [e_6]; exact (by subst_vars; exact in_1 hi0 hi1)))
  refine sw_iload (pc := 24) F dX10_record_24 4 rfl ?_
  refine sw_i2l (pc := 26) F dX10_record_26 rfl ?_
  refine sw_lconst (pc := 27) (v := 0) F dX10_record_27 rfl ?_
  refine sw_iload_n (pc := 28) F dX10_record_28 rfl 2 rfl ?_
  refine sw_iconst (pc := 29) (v := 1) F dX10_record_29 rfl ?_
  refine sw_isub (pc := 30) F dX10_record_30 ?_
  refine sw_eqt (v := .int 3) (by rfl) ?_
  refine sw_i2l (pc := 31) (v := 3) F dX10_record_31 rfl ?_
  refine sw_calli (pc := 32) (wr := [(h0, .inr (10, [.ref b0, .ref b1, .int np, .int th, .long hh])), (b0, .inl (G.2.1.2, 344, .inr (.inl S))), (b1, .inl (G.2.1.2, 1032, .inr (.inl P)))]) (k' := 0) (n' := 0) F (sw_runS (R := ({ frames := 1, cells := 0, slots := 0, locals := 25 } : Room)) (na := 3) F T.2.1 T.2.2.1 (k_X10_in l G j.toInt64 0 3) [] rfl (by decide) gX10_record_X10_in rfl rfl rfl (by decide +kernel) ⟨Nat.le_of_ble_eq_true rfl, Nat.le_of_ble_eq_true rfl⟩ rfl rfl (Nat.le_of_ble_eq_true rfl) dX10_record_32 (Nat.le_of_ble_eq_true rfl) (Nat.le_of_ble_eq_true rfl)) [] [0, 1, 2] rfl rfl (by decide) (by decide) rfl rfl (fun r_7 u_8 h_9 => ?_)
  have e_10 : r_7 = f_X10_in_r j.toInt64 0 3 := h_9
  refine sw_eq (ws' := [(h0, .inr (10, [.ref b0, .ref b1, .int np, .int th, .long hh])), (b0, .inl (G.2.1.2, 344, .inr (.inl S))), (b1, .inl (G.2.1.2, 1032, .inr (.inl P)))]) (lv' := [(0, .ref h0), (1, .int 232), (2, .int 4), (3, .int i), (4, .int j)]) (st' := [.int r_7]) rfl rfl rfl ?_
  refine sw_if_ne (pc := 35) (tgt := 45) F dX10_record_35 (by decide) (fun _ => ?_) (fun c => absurd c (by rw [e_10]; exact in_1 (by assumption) (by assumption)))
  refine sw_aload_n (pc := 45) F dX10_record_45 rfl 0 rfl ?_
  refine sw_iconst (pc := 46) (v := 0) F dX10_record_46 rfl ?_
  refine sw_put (pc := 47) (Cn := RX10) (T := TX10) (N := 5) (ci := 10) (ty0 := tyX10) (ws' := [(h0, .inr (10, [.ref b0, .ref b1, .int np, .int 0, .long hh])), (b0, .inl (G.2.1.2, 344, .inr (.inl S))), (b1, .inl (G.2.1.2, 1032, .inr (.inl P)))]) F in10 tyX10_ok nmX10 0 rfl rfl 3 (by decide) rfl (List.mem_of_getElem? (i := 2) rfl) rfl rfl rfl (Nat.le_of_ble_eq_true rfl) dX10_record_47 rfl ?_
  refine sw_aload_n (pc := 50) F dX10_record_50 rfl 0 rfl ?_
  refine sw_get (pc := 51) (Cn := RX10) (T := TX10) (N := 5) (ci := 10) (v := .ref b0) F in10 0 rfl rfl 0 (by decide) rfl (List.mem_of_getElem? (i := 1) rfl) rfl dX10_record_51 ?_
  refine sw_iload_n (pc := 54) F dX10_record_54 rfl 1 rfl ?_
  refine sw_iconst (pc := 55) (v := 1) F dX10_record_55 rfl ?_
  refine sw_iadd (pc := 56) F dX10_record_56 ?_
  refine sw_eqt (v := .int 233) (by rfl) ?_
  refine sw_iload_n (pc := 57) F dX10_record_57 rfl 2 rfl ?_
  refine sw_iload_n (pc := 58) F dX10_record_58 rfl 3 rfl ?_
  refine sw_imul (pc := 59) F dX10_record_59 ?_
  refine sw_topi (fun x_11 ex_11 => ?_)
  have ix_11 : x_11 = nI (4 * Ni) := by rw [ex_11, hi]; exact pk_mul 4 Ni
  refine sw_iadd (pc := 60) F dX10_record_60 ?_
  refine sw_topi (fun x_12 ex_12 => ?_)
  have ix_12 : x_12 = nI (233 + (4 * Ni)) := by rw [ex_12, ix_11]; exact nI_add 233 (4 * Ni)
  refine sw_iload (pc := 61) F dX10_record_61 4 rfl ?_
  refine sw_iadd (pc := 63) F dX10_record_63 ?_
  refine sw_topi (fun x_13 ex_13 => ?_)
  have ix_13 : x_13 = nI ((233 + (4 * Ni)) + Nj) := by rw [ex_13, ix_12, hj]; exact nI_add (233 + (4 * Ni)) Nj
  refine sw_lald (pc := 64) F 1 rfl (by rw [ix_13]; exact vp_in_nI (by omega) (by decide)) dX10_record_64 ?_
  refine sw_naml (e := S ((233 + (4 * Ni)) + Nj)) (by rw [(show x_13.toNatClampNeg = (233 + (4 * Ni)) + Nj by rw [ix_13]; exact nI_clamp (by omega))]) (fun x_14 ex_14 => ?_)
  subst ex_14
  subst ex_13
  subst ex_12
  subst ex_11
  subst e_10
  subst e_6
  subst ex_2
  subst ex_1
  exact sw_lret (pc := 65) F T () rfl rfl dX10_record_65
def f_X10_day_r (S : Nat → Int64) (Ni : Nat) (Nj : Nat) : Int64 := (f_X10_record_day_r S Ni Nj)
set_option maxHeartbeats 4000000 in
set_option maxRecDepth 100000 in
theorem k_X10_day (l : Launch) (G : sw_E) (h0 : Nat) (b0 : Nat) (b1 : Nat) (np : Int32) (th : Int32) (hh : Int64) (S : Nat → Int64) (P : Nat → Int64) (i : Int32) (Ni : Nat) (j : Int32) (Nj : Nat) (hi : i = nI Ni) (hNi : Ni < 5) (hj : j = nI Nj) (hNj : Nj < 4) (hi0 : ¬ i.toInt64 < 0) (hi1 : i.toInt64 ≤ (S 232 - 1)) (hj0 : ¬ j.toInt64 < 0) (hj1 : j.toInt64 ≤ 3) : sw_M l G yX10_day wsX10_day ({ frames := 2, cells := 0, slots := 0, locals := 49 } : Room) [.ref h0, .int i, .int j] [(h0, .inr (10, [.ref b0, .ref b1, .int np, .int th, .long hh])), (b0, .inl (G.2.1.2, 344, .inr (.inl S))), (b1, .inl (G.2.1.2, 1032, .inr (.inl P)))] (sw_QL G (S := Unit) (fun (r : Int64) (_ : Unit) => r = f_X10_day_r S Ni Nj) (fun _ => [(h0, .inr (10, [.ref b0, .ref b1, .int np, .int 0, .long hh])), (b0, .inl (G.2.1.2, 344, .inr (.inl S))), (b1, .inl (G.2.1.2, 1032, .inr (.inl P)))])) 0 0 := by
  refine sw_start (cc := cX10_day) (maxL := 3) (ret := some .long) (lv := [(0, .ref h0), (1, .int i), (2, .int j)]) (own := RX10) (nm := "day") (by decide +kernel) rfl rfl rfl rfl (Nat.le_of_ble_eq_true rfl) (fun C F T => ?_)
  refine sw_aload_n (pc := 0) F dX10_day_0 rfl 0 rfl ?_
  refine sw_sipush (pc := 1) (v := 232) F dX10_day_1 rfl ?_
  refine sw_iconst (pc := 4) (v := 4) F dX10_day_4 rfl ?_
  refine sw_iload_n (pc := 5) F dX10_day_5 rfl 1 rfl ?_
  refine sw_iload_n (pc := 6) F dX10_day_6 rfl 2 rfl ?_
  refine sw_calll (pc := 7) (wr := []) (k' := 0) (n' := 0) F (sw_runV (R := ({ frames := 2, cells := 0, slots := 0, locals := 49 } : Room)) (q0 := 0) (na := 4) F T.2.1 T.2.2.1 (k_X10_record_day l G h0 b0 b1 np th hh S P i Ni j Nj hi (by omega) hj (by omega) (by assumption) (by assumption) (by assumption) (by assumption)) [0, 1, 2] rfl (by decide) gX10_day_X10_record rfl rfl rfl (by decide +kernel) ⟨Nat.le_of_ble_eq_true rfl, Nat.le_of_ble_eq_true rfl⟩ rfl rfl rfl rfl rfl (Nat.le_of_ble_eq_true rfl) dX10_day_7 (Nat.le_of_ble_eq_true rfl) (Nat.le_of_ble_eq_true rfl)) [0, 1, 2] [] rfl rfl (by decide) (by decide) rfl rfl (fun r_1 u_2 h_3 => ?_)
  have e_4 : r_1 = f_X10_record_day_r S Ni Nj := h_3
  refine sw_eq (ws' := [(h0, .inr (10, [.ref b0, .ref b1, .int np, .int 0, .long hh])), (b0, .inl (G.2.1.2, 344, .inr (.inl S))), (b1, .inl (G.2.1.2, 1032, .inr (.inl P)))]) (lv' := [(0, .ref h0), (1, .int i), (2, .int j)]) (st' := [.long r_1]) rfl rfl rfl ?_
  subst e_4
  exact sw_lret (pc := 10) F T () rfl rfl dX10_day_10
def f_X10_record_event_r (S : Nat → Int64) (Ni : Nat) (Nj : Nat) : Int64 := (S ((254 + (3 * Ni)) + Nj))
set_option maxHeartbeats 4000000 in
set_option maxRecDepth 100000 in
theorem k_X10_record_event (l : Launch) (G : sw_E) (h0 : Nat) (b0 : Nat) (b1 : Nat) (np : Int32) (th : Int32) (hh : Int64) (S : Nat → Int64) (P : Nat → Int64) (i : Int32) (Ni : Nat) (j : Int32) (Nj : Nat) (hi : i = nI Ni) (hNi : Ni < 30) (hj : j = nI Nj) (hNj : Nj < 3) (hi0 : ¬ i.toInt64 < 0) (hi1 : i.toInt64 ≤ (S 253 - 1)) (hj0 : ¬ j.toInt64 < 0) (hj1 : j.toInt64 ≤ 2) : sw_M l G yX10_record wsX10_record ({ frames := 1, cells := 0, slots := 0, locals := 25 } : Room) [.ref h0, .int 253, .int 3, .int i, .int j] [(h0, .inr (10, [.ref b0, .ref b1, .int np, .int th, .long hh])), (b0, .inl (G.2.1.2, 344, .inr (.inl S))), (b1, .inl (G.2.1.2, 1032, .inr (.inl P)))] (sw_QL G (S := Unit) (fun (r : Int64) (_ : Unit) => r = f_X10_record_event_r S Ni Nj) (fun _ => [(h0, .inr (10, [.ref b0, .ref b1, .int np, .int 0, .long hh])), (b0, .inl (G.2.1.2, 344, .inr (.inl S))), (b1, .inl (G.2.1.2, 1032, .inr (.inl P)))])) 0 0 := by
  refine sw_start (cc := cX10_record) (maxL := 5) (ret := some .long) (lv := [(0, .ref h0), (1, .int 253), (2, .int 3), (3, .int i), (4, .int j)]) (own := RX10) (nm := "record") (by decide +kernel) rfl rfl rfl rfl (Nat.le_of_ble_eq_true rfl) (fun C F T => ?_)
  have in10 : ∀ w ∈ u_ws RX10 TX10 5, w ∈ wsX10_record := fun w h => List.mem_cons_of_mem _ (List.mem_append_right _ (h))
  refine sw_iload_n (pc := 0) F dX10_record_0 rfl 3 rfl ?_
  refine sw_i2l (pc := 1) F dX10_record_1 rfl ?_
  refine sw_lconst (pc := 2) (v := 0) F dX10_record_2 rfl ?_
  refine sw_aload_n (pc := 3) F dX10_record_3 rfl 0 rfl ?_
  refine sw_get (pc := 4) (Cn := RX10) (T := TX10) (N := 5) (ci := 10) (v := .ref b0) F in10 0 rfl rfl 0 (by decide) rfl (List.mem_of_getElem? (i := 1) rfl) rfl dX10_record_4 ?_
  refine sw_iload_n (pc := 7) F dX10_record_7 rfl 1 rfl ?_
  refine sw_lald (pc := 8) F 1 rfl (sw_in rfl) dX10_record_8 ?_
  refine sw_naml (e := S 253) rfl (fun x_1 ex_1 => ?_)
  refine sw_lconst (pc := 9) (v := 1) F dX10_record_9 rfl ?_
  refine sw_lsub (pc := 10) F dX10_record_10 ?_
  refine sw_topl (fun x_2 ex_2 => ?_)
  refine sw_calli (pc := 11) (wr := [(h0, .inr (10, [.ref b0, .ref b1, .int np, .int th, .long hh])), (b0, .inl (G.2.1.2, 344, .inr (.inl S))), (b1, .inl (G.2.1.2, 1032, .inr (.inl P)))]) (k' := 0) (n' := 0) F (sw_runS (R := ({ frames := 1, cells := 0, slots := 0, locals := 25 } : Room)) (na := 3) F T.2.1 T.2.2.1 (k_X10_in l G i.toInt64 0 x_2) [] rfl (by decide) gX10_record_X10_in rfl rfl rfl (by decide +kernel) ⟨Nat.le_of_ble_eq_true rfl, Nat.le_of_ble_eq_true rfl⟩ rfl rfl (Nat.le_of_ble_eq_true rfl) dX10_record_11 (Nat.le_of_ble_eq_true rfl) (Nat.le_of_ble_eq_true rfl)) [] [0, 1, 2] rfl rfl (by decide) (by decide) rfl rfl (fun r_3 u_4 h_5 => ?_)
  have e_6 : r_3 = f_X10_in_r i.toInt64 0 x_2 := h_5
  refine sw_eq (ws' := [(h0, .inr (10, [.ref b0, .ref b1, .int np, .int th, .long hh])), (b0, .inl (G.2.1.2, 344, .inr (.inl S))), (b1, .inl (G.2.1.2, 1032, .inr (.inl P)))]) (lv' := [(0, .ref h0), (1, .int 253), (2, .int 3), (3, .int i), (4, .int j)]) (st' := [.int r_3]) rfl rfl rfl ?_
  refine sw_if_ne (pc := 14) (tgt := 24) F dX10_record_14 (by decide) (fun _ => ?_) (fun c => absurd c (by rw [e_6]; exact (by subst_vars; exact in_1 hi0 hi1)))
  refine sw_iload (pc := 24) F dX10_record_24 4 rfl ?_
  refine sw_i2l (pc := 26) F dX10_record_26 rfl ?_
  refine sw_lconst (pc := 27) (v := 0) F dX10_record_27 rfl ?_
  refine sw_iload_n (pc := 28) F dX10_record_28 rfl 2 rfl ?_
  refine sw_iconst (pc := 29) (v := 1) F dX10_record_29 rfl ?_
  refine sw_isub (pc := 30) F dX10_record_30 ?_
  refine sw_eqt (v := .int 2) (by rfl) ?_
  refine sw_i2l (pc := 31) (v := 2) F dX10_record_31 rfl ?_
  refine sw_calli (pc := 32) (wr := [(h0, .inr (10, [.ref b0, .ref b1, .int np, .int th, .long hh])), (b0, .inl (G.2.1.2, 344, .inr (.inl S))), (b1, .inl (G.2.1.2, 1032, .inr (.inl P)))]) (k' := 0) (n' := 0) F (sw_runS (R := ({ frames := 1, cells := 0, slots := 0, locals := 25 } : Room)) (na := 3) F T.2.1 T.2.2.1 (k_X10_in l G j.toInt64 0 2) [] rfl (by decide) gX10_record_X10_in rfl rfl rfl (by decide +kernel) ⟨Nat.le_of_ble_eq_true rfl, Nat.le_of_ble_eq_true rfl⟩ rfl rfl (Nat.le_of_ble_eq_true rfl) dX10_record_32 (Nat.le_of_ble_eq_true rfl) (Nat.le_of_ble_eq_true rfl)) [] [0, 1, 2] rfl rfl (by decide) (by decide) rfl rfl (fun r_7 u_8 h_9 => ?_)
  have e_10 : r_7 = f_X10_in_r j.toInt64 0 2 := h_9
  refine sw_eq (ws' := [(h0, .inr (10, [.ref b0, .ref b1, .int np, .int th, .long hh])), (b0, .inl (G.2.1.2, 344, .inr (.inl S))), (b1, .inl (G.2.1.2, 1032, .inr (.inl P)))]) (lv' := [(0, .ref h0), (1, .int 253), (2, .int 3), (3, .int i), (4, .int j)]) (st' := [.int r_7]) rfl rfl rfl ?_
  refine sw_if_ne (pc := 35) (tgt := 45) F dX10_record_35 (by decide) (fun _ => ?_) (fun c => absurd c (by rw [e_10]; exact in_1 (by assumption) (by assumption)))
  refine sw_aload_n (pc := 45) F dX10_record_45 rfl 0 rfl ?_
  refine sw_iconst (pc := 46) (v := 0) F dX10_record_46 rfl ?_
  refine sw_put (pc := 47) (Cn := RX10) (T := TX10) (N := 5) (ci := 10) (ty0 := tyX10) (ws' := [(h0, .inr (10, [.ref b0, .ref b1, .int np, .int 0, .long hh])), (b0, .inl (G.2.1.2, 344, .inr (.inl S))), (b1, .inl (G.2.1.2, 1032, .inr (.inl P)))]) F in10 tyX10_ok nmX10 0 rfl rfl 3 (by decide) rfl (List.mem_of_getElem? (i := 2) rfl) rfl rfl rfl (Nat.le_of_ble_eq_true rfl) dX10_record_47 rfl ?_
  refine sw_aload_n (pc := 50) F dX10_record_50 rfl 0 rfl ?_
  refine sw_get (pc := 51) (Cn := RX10) (T := TX10) (N := 5) (ci := 10) (v := .ref b0) F in10 0 rfl rfl 0 (by decide) rfl (List.mem_of_getElem? (i := 1) rfl) rfl dX10_record_51 ?_
  refine sw_iload_n (pc := 54) F dX10_record_54 rfl 1 rfl ?_
  refine sw_iconst (pc := 55) (v := 1) F dX10_record_55 rfl ?_
  refine sw_iadd (pc := 56) F dX10_record_56 ?_
  refine sw_eqt (v := .int 254) (by rfl) ?_
  refine sw_iload_n (pc := 57) F dX10_record_57 rfl 2 rfl ?_
  refine sw_iload_n (pc := 58) F dX10_record_58 rfl 3 rfl ?_
  refine sw_imul (pc := 59) F dX10_record_59 ?_
  refine sw_topi (fun x_11 ex_11 => ?_)
  have ix_11 : x_11 = nI (3 * Ni) := by rw [ex_11, hi]; exact pk_mul 3 Ni
  refine sw_iadd (pc := 60) F dX10_record_60 ?_
  refine sw_topi (fun x_12 ex_12 => ?_)
  have ix_12 : x_12 = nI (254 + (3 * Ni)) := by rw [ex_12, ix_11]; exact nI_add 254 (3 * Ni)
  refine sw_iload (pc := 61) F dX10_record_61 4 rfl ?_
  refine sw_iadd (pc := 63) F dX10_record_63 ?_
  refine sw_topi (fun x_13 ex_13 => ?_)
  have ix_13 : x_13 = nI ((254 + (3 * Ni)) + Nj) := by rw [ex_13, ix_12, hj]; exact nI_add (254 + (3 * Ni)) Nj
  refine sw_lald (pc := 64) F 1 rfl (by rw [ix_13]; exact vp_in_nI (by omega) (by decide)) dX10_record_64 ?_
  refine sw_naml (e := S ((254 + (3 * Ni)) + Nj)) (by rw [(show x_13.toNatClampNeg = (254 + (3 * Ni)) + Nj by rw [ix_13]; exact nI_clamp (by omega))]) (fun x_14 ex_14 => ?_)
  subst ex_14
  subst ex_13
  subst ex_12
  subst ex_11
  subst e_10
  subst e_6
  subst ex_2
  subst ex_1
  exact sw_lret (pc := 65) F T () rfl rfl dX10_record_65
def f_X10_event_r (S : Nat → Int64) (Ni : Nat) (Nj : Nat) : Int64 := (f_X10_record_event_r S Ni Nj)
set_option maxHeartbeats 4000000 in
set_option maxRecDepth 100000 in
theorem k_X10_event (l : Launch) (G : sw_E) (h0 : Nat) (b0 : Nat) (b1 : Nat) (np : Int32) (th : Int32) (hh : Int64) (S : Nat → Int64) (P : Nat → Int64) (i : Int32) (Ni : Nat) (j : Int32) (Nj : Nat) (hi : i = nI Ni) (hNi : Ni < 30) (hj : j = nI Nj) (hNj : Nj < 3) (hi0 : ¬ i.toInt64 < 0) (hi1 : i.toInt64 ≤ (S 253 - 1)) (hj0 : ¬ j.toInt64 < 0) (hj1 : j.toInt64 ≤ 2) : sw_M l G yX10_event wsX10_event ({ frames := 2, cells := 0, slots := 0, locals := 49 } : Room) [.ref h0, .int i, .int j] [(h0, .inr (10, [.ref b0, .ref b1, .int np, .int th, .long hh])), (b0, .inl (G.2.1.2, 344, .inr (.inl S))), (b1, .inl (G.2.1.2, 1032, .inr (.inl P)))] (sw_QL G (S := Unit) (fun (r : Int64) (_ : Unit) => r = f_X10_event_r S Ni Nj) (fun _ => [(h0, .inr (10, [.ref b0, .ref b1, .int np, .int 0, .long hh])), (b0, .inl (G.2.1.2, 344, .inr (.inl S))), (b1, .inl (G.2.1.2, 1032, .inr (.inl P)))])) 0 0 := by
  refine sw_start (cc := cX10_event) (maxL := 3) (ret := some .long) (lv := [(0, .ref h0), (1, .int i), (2, .int j)]) (own := RX10) (nm := "event") (by decide +kernel) rfl rfl rfl rfl (Nat.le_of_ble_eq_true rfl) (fun C F T => ?_)
  refine sw_aload_n (pc := 0) F dX10_event_0 rfl 0 rfl ?_
  refine sw_sipush (pc := 1) (v := 253) F dX10_event_1 rfl ?_
  refine sw_iconst (pc := 4) (v := 3) F dX10_event_4 rfl ?_
  refine sw_iload_n (pc := 5) F dX10_event_5 rfl 1 rfl ?_
  refine sw_iload_n (pc := 6) F dX10_event_6 rfl 2 rfl ?_
  refine sw_calll (pc := 7) (wr := []) (k' := 0) (n' := 0) F (sw_runV (R := ({ frames := 2, cells := 0, slots := 0, locals := 49 } : Room)) (q0 := 0) (na := 4) F T.2.1 T.2.2.1 (k_X10_record_event l G h0 b0 b1 np th hh S P i Ni j Nj hi (by omega) hj (by omega) (by assumption) (by assumption) (by assumption) (by assumption)) [0, 1, 2] rfl (by decide) gX10_event_X10_record rfl rfl rfl (by decide +kernel) ⟨Nat.le_of_ble_eq_true rfl, Nat.le_of_ble_eq_true rfl⟩ rfl rfl rfl rfl rfl (Nat.le_of_ble_eq_true rfl) dX10_event_7 (Nat.le_of_ble_eq_true rfl) (Nat.le_of_ble_eq_true rfl)) [0, 1, 2] [] rfl rfl (by decide) (by decide) rfl rfl (fun r_1 u_2 h_3 => ?_)
  have e_4 : r_1 = f_X10_record_event_r S Ni Nj := h_3
  refine sw_eq (ws' := [(h0, .inr (10, [.ref b0, .ref b1, .int np, .int 0, .long hh])), (b0, .inl (G.2.1.2, 344, .inr (.inl S))), (b1, .inl (G.2.1.2, 1032, .inr (.inl P)))]) (lv' := [(0, .ref h0), (1, .int i), (2, .int j)]) (st' := [.long r_1]) rfl rfl rfl ?_
  subst e_4
  exact sw_lret (pc := 10) F T () rfl rfl dX10_event_10
