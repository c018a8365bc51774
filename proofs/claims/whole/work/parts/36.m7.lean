theorem nz_pos {x : Int64} (h : ¬ x ≤ 0) : ¬ x = 0 := fun e => h (by rw [e]; decide)
theorem nz_int {x : Int64} (h : 0 < x.toInt) : ¬ x = 0 := fun e => by rw [e] at h; exact absurd h (by decide)
def hI1 (S : Nat → Int64) : Prop := 0 ≤ (S 232).toInt ∧ (S 232).toInt ≤ 5
def hI2 (S : Nat → Int64) : Prop := hI1 S ∧ 0 < (S 59).toInt
theorem hI1_u {S : Nat → Int64} {j : Nat} {x : Int64} (h : hI1 S) (hj : j ≠ 232) : hI1 (vp_updL S j x) := by
  unfold hI1
  rw [updL_ne (by omega)]
  exact h
theorem hI2_u {S : Nat → Int64} {j : Nat} {x : Int64} (h : hI2 S) (hj : j ≠ 232 ∧ j ≠ 59) : hI2 (vp_updL S j x) := by
  refine ⟨hI1_u h.1 hj.1, ?_⟩
  rw [updL_ne (by omega)]
  exact h.2
theorem hI2_c {S : Nat → Int64} (h : hI2 S) : hI2 (md_comes 63 7 24 161 S) := by
  unfold hI2 hI1 md_comes
  rw [updL_ne (by omega), updL_ne (by omega)]
  split
  · unfold md_down
    rw [if_neg (by omega), if_neg (by omega)]
    exact h
  · exact h

noncomputable def f_X10_flows_o1 (S : Nat → Int64) : Nat → Int64 := if (S 41) = 1 then (if (S 3) ≤ (f_X10_flowBy_r S (S 39) (S 20) (S 21)) then (if ((vp_updL S 41 1) 41) = 1 then (if (f_X10_densityAt_r S (S 20) (S 21)) = 0 then ((vp_updL (vp_updL (vp_updL (vp_updL S 41 1) 40 (f_X10_flowBy_r S (S 39) (S 20) (S 21))) 42 (((vp_updL (vp_updL S 41 1) 40 (f_X10_flowBy_r S (S 39) (S 20) (S 21))) 42) + ((vp_updL (vp_updL S 41 1) 40 (f_X10_flowBy_r S (S 39) (S 20) (S 21))) 40))) 43 (((vp_updL (vp_updL (vp_updL S 41 1) 40 (f_X10_flowBy_r S (S 39) (S 20) (S 21))) 42 (((vp_updL (vp_updL S 41 1) 40 (f_X10_flowBy_r S (S 39) (S 20) (S 21))) 42) + ((vp_updL (vp_updL S 41 1) 40 (f_X10_flowBy_r S (S 39) (S 20) (S 21))) 40))) 43) + 0))) else ((vp_updL (vp_updL (vp_updL (vp_updL S 41 1) 40 (f_X10_flowBy_r S (S 39) (S 20) (S 21))) 42 (((vp_updL (vp_updL S 41 1) 40 (f_X10_flowBy_r S (S 39) (S 20) (S 21))) 42) + ((vp_updL (vp_updL S 41 1) 40 (f_X10_flowBy_r S (S 39) (S 20) (S 21))) 40))) 43 (((vp_updL (vp_updL (vp_updL S 41 1) 40 (f_X10_flowBy_r S (S 39) (S 20) (S 21))) 42 (((vp_updL (vp_updL S 41 1) 40 (f_X10_flowBy_r S (S 39) (S 20) (S 21))) 42) + ((vp_updL (vp_updL S 41 1) 40 (f_X10_flowBy_r S (S 39) (S 20) (S 21))) 40))) 43) + ((10000 * ((vp_updL (vp_updL (vp_updL S 41 1) 40 (f_X10_flowBy_r S (S 39) (S 20) (S 21))) 42 (((vp_updL (vp_updL S 41 1) 40 (f_X10_flowBy_r S (S 39) (S 20) (S 21))) 42) + ((vp_updL (vp_updL S 41 1) 40 (f_X10_flowBy_r S (S 39) (S 20) (S 21))) 40))) 40)) / (f_X10_densityAt_r S (S 20) (S 21))))))) else (if (f_X10_densityAt_r S (S 20) (S 21)) = 0 then ((vp_updL (vp_updL (vp_updL (vp_updL S 41 1) 40 0) 42 (((vp_updL (vp_updL S 41 1) 40 0) 42) + ((vp_updL (vp_updL S 41 1) 40 0) 40))) 43 (((vp_updL (vp_updL (vp_updL S 41 1) 40 0) 42 (((vp_updL (vp_updL S 41 1) 40 0) 42) + ((vp_updL (vp_updL S 41 1) 40 0) 40))) 43) + 0))) else ((vp_updL (vp_updL (vp_updL (vp_updL S 41 1) 40 0) 42 (((vp_updL (vp_updL S 41 1) 40 0) 42) + ((vp_updL (vp_updL S 41 1) 40 0) 40))) 43 (((vp_updL (vp_updL (vp_updL S 41 1) 40 0) 42 (((vp_updL (vp_updL S 41 1) 40 0) 42) + ((vp_updL (vp_updL S 41 1) 40 0) 40))) 43) + ((10000 * ((vp_updL (vp_updL (vp_updL S 41 1) 40 0) 42 (((vp_updL (vp_updL S 41 1) 40 0) 42) + ((vp_updL (vp_updL S 41 1) 40 0) 40))) 40)) / (f_X10_densityAt_r S (S 20) (S 21)))))))) else (if ((vp_updL S 41 0) 41) = 1 then (if (f_X10_densityAt_r S (S 20) (S 21)) = 0 then ((vp_updL (vp_updL (vp_updL (vp_updL S 41 0) 40 (f_X10_flowBy_r S (S 39) (S 20) (S 21))) 42 (((vp_updL (vp_updL S 41 0) 40 (f_X10_flowBy_r S (S 39) (S 20) (S 21))) 42) + ((vp_updL (vp_updL S 41 0) 40 (f_X10_flowBy_r S (S 39) (S 20) (S 21))) 40))) 43 (((vp_updL (vp_updL (vp_updL S 41 0) 40 (f_X10_flowBy_r S (S 39) (S 20) (S 21))) 42 (((vp_updL (vp_updL S 41 0) 40 (f_X10_flowBy_r S (S 39) (S 20) (S 21))) 42) + ((vp_updL (vp_updL S 41 0) 40 (f_X10_flowBy_r S (S 39) (S 20) (S 21))) 40))) 43) + 0))) else ((vp_updL (vp_updL (vp_updL (vp_updL S 41 0) 40 (f_X10_flowBy_r S (S 39) (S 20) (S 21))) 42 (((vp_updL (vp_updL S 41 0) 40 (f_X10_flowBy_r S (S 39) (S 20) (S 21))) 42) + ((vp_updL (vp_updL S 41 0) 40 (f_X10_flowBy_r S (S 39) (S 20) (S 21))) 40))) 43 (((vp_updL (vp_updL (vp_updL S 41 0) 40 (f_X10_flowBy_r S (S 39) (S 20) (S 21))) 42 (((vp_updL (vp_updL S 41 0) 40 (f_X10_flowBy_r S (S 39) (S 20) (S 21))) 42) + ((vp_updL (vp_updL S 41 0) 40 (f_X10_flowBy_r S (S 39) (S 20) (S 21))) 40))) 43) + ((10000 * ((vp_updL (vp_updL (vp_updL S 41 0) 40 (f_X10_flowBy_r S (S 39) (S 20) (S 21))) 42 (((vp_updL (vp_updL S 41 0) 40 (f_X10_flowBy_r S (S 39) (S 20) (S 21))) 42) + ((vp_updL (vp_updL S 41 0) 40 (f_X10_flowBy_r S (S 39) (S 20) (S 21))) 40))) 40)) / (f_X10_densityAt_r S (S 20) (S 21))))))) else (if (f_X10_densityAt_r S (S 20) (S 21)) = 0 then ((vp_updL (vp_updL (vp_updL (vp_updL S 41 0) 40 0) 42 (((vp_updL (vp_updL S 41 0) 40 0) 42) + ((vp_updL (vp_updL S 41 0) 40 0) 40))) 43 (((vp_updL (vp_updL (vp_updL S 41 0) 40 0) 42 (((vp_updL (vp_updL S 41 0) 40 0) 42) + ((vp_updL (vp_updL S 41 0) 40 0) 40))) 43) + 0))) else ((vp_updL (vp_updL (vp_updL (vp_updL S 41 0) 40 0) 42 (((vp_updL (vp_updL S 41 0) 40 0) 42) + ((vp_updL (vp_updL S 41 0) 40 0) 40))) 43 (((vp_updL (vp_updL (vp_updL S 41 0) 40 0) 42 (((vp_updL (vp_updL S 41 0) 40 0) 42) + ((vp_updL (vp_updL S 41 0) 40 0) 40))) 43) + ((10000 * ((vp_updL (vp_updL (vp_updL S 41 0) 40 0) 42 (((vp_updL (vp_updL S 41 0) 40 0) 42) + ((vp_updL (vp_updL S 41 0) 40 0) 40))) 40)) / (f_X10_densityAt_r S (S 20) (S 21))))))))) else (if (f_X10_flowBy_r S (S 39) (S 20) (S 21)) < (S 4) then (if ((vp_updL S 41 0) 41) = 1 then (if (f_X10_densityAt_r S (S 20) (S 21)) = 0 then ((vp_updL (vp_updL (vp_updL (vp_updL S 41 0) 40 (f_X10_flowBy_r S (S 39) (S 20) (S 21))) 42 (((vp_updL (vp_updL S 41 0) 40 (f_X10_flowBy_r S (S 39) (S 20) (S 21))) 42) + ((vp_updL (vp_updL S 41 0) 40 (f_X10_flowBy_r S (S 39) (S 20) (S 21))) 40))) 43 (((vp_updL (vp_updL (vp_updL S 41 0) 40 (f_X10_flowBy_r S (S 39) (S 20) (S 21))) 42 (((vp_updL (vp_updL S 41 0) 40 (f_X10_flowBy_r S (S 39) (S 20) (S 21))) 42) + ((vp_updL (vp_updL S 41 0) 40 (f_X10_flowBy_r S (S 39) (S 20) (S 21))) 40))) 43) + 0))) else ((vp_updL (vp_updL (vp_updL (vp_updL S 41 0) 40 (f_X10_flowBy_r S (S 39) (S 20) (S 21))) 42 (((vp_updL (vp_updL S 41 0) 40 (f_X10_flowBy_r S (S 39) (S 20) (S 21))) 42) + ((vp_updL (vp_updL S 41 0) 40 (f_X10_flowBy_r S (S 39) (S 20) (S 21))) 40))) 43 (((vp_updL (vp_updL (vp_updL S 41 0) 40 (f_X10_flowBy_r S (S 39) (S 20) (S 21))) 42 (((vp_updL (vp_updL S 41 0) 40 (f_X10_flowBy_r S (S 39) (S 20) (S 21))) 42) + ((vp_updL (vp_updL S 41 0) 40 (f_X10_flowBy_r S (S 39) (S 20) (S 21))) 40))) 43) + ((10000 * ((vp_updL (vp_updL (vp_updL S 41 0) 40 (f_X10_flowBy_r S (S 39) (S 20) (S 21))) 42 (((vp_updL (vp_updL S 41 0) 40 (f_X10_flowBy_r S (S 39) (S 20) (S 21))) 42) + ((vp_updL (vp_updL S 41 0) 40 (f_X10_flowBy_r S (S 39) (S 20) (S 21))) 40))) 40)) / (f_X10_densityAt_r S (S 20) (S 21))))))) else (if (f_X10_densityAt_r S (S 20) (S 21)) = 0 then ((vp_updL (vp_updL (vp_updL (vp_updL S 41 0) 40 0) 42 (((vp_updL (vp_updL S 41 0) 40 0) 42) + ((vp_updL (vp_updL S 41 0) 40 0) 40))) 43 (((vp_updL (vp_updL (vp_updL S 41 0) 40 0) 42 (((vp_updL (vp_updL S 41 0) 40 0) 42) + ((vp_updL (vp_updL S 41 0) 40 0) 40))) 43) + 0))) else ((vp_updL (vp_updL (vp_updL (vp_updL S 41 0) 40 0) 42 (((vp_updL (vp_updL S 41 0) 40 0) 42) + ((vp_updL (vp_updL S 41 0) 40 0) 40))) 43 (((vp_updL (vp_updL (vp_updL S 41 0) 40 0) 42 (((vp_updL (vp_updL S 41 0) 40 0) 42) + ((vp_updL (vp_updL S 41 0) 40 0) 40))) 43) + ((10000 * ((vp_updL (vp_updL (vp_updL S 41 0) 40 0) 42 (((vp_updL (vp_updL S 41 0) 40 0) 42) + ((vp_updL (vp_updL S 41 0) 40 0) 40))) 40)) / (f_X10_densityAt_r S (S 20) (S 21)))))))) else (if ((vp_updL S 41 1) 41) = 1 then (if (f_X10_densityAt_r S (S 20) (S 21)) = 0 then ((vp_updL (vp_updL (vp_updL (vp_updL S 41 1) 40 (f_X10_flowBy_r S (S 39) (S 20) (S 21))) 42 (((vp_updL (vp_updL S 41 1) 40 (f_X10_flowBy_r S (S 39) (S 20) (S 21))) 42) + ((vp_updL (vp_updL S 41 1) 40 (f_X10_flowBy_r S (S 39) (S 20) (S 21))) 40))) 43 (((vp_updL (vp_updL (vp_updL S 41 1) 40 (f_X10_flowBy_r S (S 39) (S 20) (S 21))) 42 (((vp_updL (vp_updL S 41 1) 40 (f_X10_flowBy_r S (S 39) (S 20) (S 21))) 42) + ((vp_updL (vp_updL S 41 1) 40 (f_X10_flowBy_r S (S 39) (S 20) (S 21))) 40))) 43) + 0))) else ((vp_updL (vp_updL (vp_updL (vp_updL S 41 1) 40 (f_X10_flowBy_r S (S 39) (S 20) (S 21))) 42 (((vp_updL (vp_updL S 41 1) 40 (f_X10_flowBy_r S (S 39) (S 20) (S 21))) 42) + ((vp_updL (vp_updL S 41 1) 40 (f_X10_flowBy_r S (S 39) (S 20) (S 21))) 40))) 43 (((vp_updL (vp_updL (vp_updL S 41 1) 40 (f_X10_flowBy_r S (S 39) (S 20) (S 21))) 42 (((vp_updL (vp_updL S 41 1) 40 (f_X10_flowBy_r S (S 39) (S 20) (S 21))) 42) + ((vp_updL (vp_updL S 41 1) 40 (f_X10_flowBy_r S (S 39) (S 20) (S 21))) 40))) 43) + ((10000 * ((vp_updL (vp_updL (vp_updL S 41 1) 40 (f_X10_flowBy_r S (S 39) (S 20) (S 21))) 42 (((vp_updL (vp_updL S 41 1) 40 (f_X10_flowBy_r S (S 39) (S 20) (S 21))) 42) + ((vp_updL (vp_updL S 41 1) 40 (f_X10_flowBy_r S (S 39) (S 20) (S 21))) 40))) 40)) / (f_X10_densityAt_r S (S 20) (S 21))))))) else (if (f_X10_densityAt_r S (S 20) (S 21)) = 0 then ((vp_updL (vp_updL (vp_updL (vp_updL S 41 1) 40 0) 42 (((vp_updL (vp_updL S 41 1) 40 0) 42) + ((vp_updL (vp_updL S 41 1) 40 0) 40))) 43 (((vp_updL (vp_updL (vp_updL S 41 1) 40 0) 42 (((vp_updL (vp_updL S 41 1) 40 0) 42) + ((vp_updL (vp_updL S 41 1) 40 0) 40))) 43) + 0))) else ((vp_updL (vp_updL (vp_updL (vp_updL S 41 1) 40 0) 42 (((vp_updL (vp_updL S 41 1) 40 0) 42) + ((vp_updL (vp_updL S 41 1) 40 0) 40))) 43 (((vp_updL (vp_updL (vp_updL S 41 1) 40 0) 42 (((vp_updL (vp_updL S 41 1) 40 0) 42) + ((vp_updL (vp_updL S 41 1) 40 0) 40))) 43) + ((10000 * ((vp_updL (vp_updL (vp_updL S 41 1) 40 0) 42 (((vp_updL (vp_updL S 41 1) 40 0) 42) + ((vp_updL (vp_updL S 41 1) 40 0) 40))) 40)) / (f_X10_densityAt_r S (S 20) (S 21)))))))))
set_option maxHeartbeats 4000000 in
set_option maxRecDepth 100000 in
theorem k_X10_flows (l : Launch) (G : sw_E) (h0 : Nat) (b0 : Nat) (b1 : Nat) (np : Int32) (th : Int32) (hh : Int64) (S : Nat → Int64) (P : Nat → Int64) (hK : 0 ≤ (S 2).toInt ∧ (S 2).toInt ≤ 100000) (hs0 : 0 ≤ ((100 * (S 39)) * (f_X10_densityAt_r S (S 20) (S 21))).toInt) (hs1 : ((100 * (S 39)) * (f_X10_densityAt_r S (S 20) (S 21))).toInt < 70368744177664) (hda : 0 ≤ (S 39).toInt ∧ (S 39).toInt ≤ 30000) (hpb : (S 20).toInt ≤ 1000000) (hbd : -1000000 ≤ (S 21).toInt ∧ (S 21).toInt ≤ 1000000) : sw_M l G yX10_flows wsX10_flows ({ frames := 3, cells := 0, slots := 0, locals := 81 } : Room) [.ref h0] [(h0, .inr (10, [.ref b0, .ref b1, .int np, .int th, .long hh])), (b0, .inl (G.2.1.2, 344, .inr (.inl S))), (b1, .inl (G.2.1.2, 1032, .inr (.inl P)))] (sw_QV G (S := (Nat → Int64)) (fun (u : (Nat → Int64)) => u = f_X10_flows_o1 S) (fun u => [(h0, .inr (10, [.ref b0, .ref b1, .int np, .int th, .long hh])), (b0, .inl (G.2.1.2, 344, .inr (.inl u))), (b1, .inl (G.2.1.2, 1032, .inr (.inl P)))])) 0 0 := by
  refine sw_start (cc := cX10_flows) (maxL := 5) (ret := none) (lv := [(0, .ref h0)]) (own := RX10) (nm := "flows") (by decide +kernel) rfl rfl rfl rfl (Nat.le_of_ble_eq_true rfl) (fun C F T => ?_)
  have in10 : ∀ w ∈ u_ws RX10 TX10 5, w ∈ wsX10_flows := fun w h => List.mem_cons_of_mem _ (List.mem_append_right _ (h))
  refine sw_aload_n (pc := 0) F dX10_flows_0 rfl 0 rfl ?_
  refine sw_aload_n (pc := 1) F dX10_flows_1 rfl 0 rfl ?_
  refine sw_get (pc := 2) (Cn := RX10) (T := TX10) (N := 5) (ci := 10) (v := .ref b0) F in10 0 rfl rfl 0 (by decide) rfl (List.mem_of_getElem? (i := 1) rfl) rfl dX10_flows_2 ?_
  refine sw_bipush (pc := 5) (v := 20) F dX10_flows_5 rfl ?_
  refine sw_lald (pc := 7) F 1 rfl (sw_in rfl) dX10_flows_7 ?_
  refine sw_naml (e := S 20) rfl (fun x_1 ex_1 => ?_)
  refine sw_aload_n (pc := 8) F dX10_flows_8 rfl 0 rfl ?_
  refine sw_get (pc := 9) (Cn := RX10) (T := TX10) (N := 5) (ci := 10) (v := .ref b0) F in10 0 rfl rfl 0 (by decide) rfl (List.mem_of_getElem? (i := 1) rfl) rfl dX10_flows_9 ?_
  refine sw_bipush (pc := 12) (v := 21) F dX10_flows_12 rfl ?_
  refine sw_lald (pc := 14) F 1 rfl (sw_in rfl) dX10_flows_14 ?_
  refine sw_naml (e := S 21) rfl (fun x_2 ex_2 => ?_)
  refine sw_calll (pc := 15) (wr := []) (k' := 0) (n' := 0) F (sw_runV (R := ({ frames := 3, cells := 0, slots := 0, locals := 81 } : Room)) (q0 := 0) (na := 2) F T.2.1 T.2.2.1 (k_X10_densityAt l G h0 b0 b1 np th hh S P x_1 x_2 (by subst_vars; exact hbd)) [0, 1, 2] rfl (by decide) gX10_flows_X10_densityAt rfl rfl rfl (by decide +kernel) ⟨Nat.le_of_ble_eq_true rfl, Nat.le_of_ble_eq_true rfl⟩ rfl rfl rfl rfl rfl (Nat.le_of_ble_eq_true rfl) dX10_flows_15 (Nat.le_of_ble_eq_true rfl) (Nat.le_of_ble_eq_true rfl)) [0, 1, 2] [] rfl rfl (by decide) (by decide) rfl rfl (fun r_3 u_4 h_5 => ?_)
  have e_6 : r_3 = f_X10_densityAt_r S x_1 x_2 := h_5
  refine sw_eq (ws' := [(h0, .inr (10, [.ref b0, .ref b1, .int np, .int th, .long hh])), (b0, .inl (G.2.1.2, 344, .inr (.inl S))), (b1, .inl (G.2.1.2, 1032, .inr (.inl P)))]) (lv' := [(0, .ref h0)]) (st' := [.long r_3]) rfl rfl rfl ?_
  refine sw_lstore_n (pc := 18) (lv' := [(1, .long r_3), (0, .ref h0)]) F T.1 dX10_flows_18 rfl (by decide) rfl ?_
  refine sw_aload_n (pc := 19) F dX10_flows_19 rfl 1 rfl ?_
  refine sw_aload_n (pc := 20) F dX10_flows_20 rfl 1 rfl ?_
  refine sw_get (pc := 21) (Cn := RX10) (T := TX10) (N := 5) (ci := 10) (v := .ref b0) F in10 0 rfl rfl 0 (by decide) rfl (List.mem_of_getElem? (i := 1) rfl) rfl dX10_flows_21 ?_
  refine sw_bipush (pc := 24) (v := 39) F dX10_flows_24 rfl ?_
  refine sw_lald (pc := 26) F 1 rfl (sw_in rfl) dX10_flows_26 ?_
  refine sw_naml (e := S 39) rfl (fun x_7 ex_7 => ?_)
  refine sw_aload_n (pc := 27) F dX10_flows_27 rfl 1 rfl ?_
  refine sw_get (pc := 28) (Cn := RX10) (T := TX10) (N := 5) (ci := 10) (v := .ref b0) F in10 0 rfl rfl 0 (by decide) rfl (List.mem_of_getElem? (i := 1) rfl) rfl dX10_flows_28 ?_
  refine sw_bipush (pc := 31) (v := 20) F dX10_flows_31 rfl ?_
  refine sw_lald (pc := 33) F 1 rfl (sw_in rfl) dX10_flows_33 ?_
  refine sw_naml (e := S 20) rfl (fun x_8 ex_8 => ?_)
  refine sw_aload_n (pc := 34) F dX10_flows_34 rfl 1 rfl ?_
  refine sw_get (pc := 35) (Cn := RX10) (T := TX10) (N := 5) (ci := 10) (v := .ref b0) F in10 0 rfl rfl 0 (by decide) rfl (List.mem_of_getElem? (i := 1) rfl) rfl dX10_flows_35 ?_
  refine sw_bipush (pc := 38) (v := 21) F dX10_flows_38 rfl ?_
  refine sw_lald (pc := 40) F 1 rfl (sw_in rfl) dX10_flows_40 ?_
  refine sw_naml (e := S 21) rfl (fun x_9 ex_9 => ?_)
  refine sw_calll (pc := 41) (wr := []) (k' := 0) (n' := 0) F (sw_runV (R := ({ frames := 3, cells := 0, slots := 0, locals := 81 } : Room)) (q0 := 0) (na := 3) F T.2.1 T.2.2.1 (k_X10_flowBy l G h0 b0 b1 np th hh S P x_7 x_8 x_9 (by subst_vars; exact hK) (by subst_vars; exact hs0) (by subst_vars; exact hs1) (by subst_vars; exact hda) (by subst_vars; exact hpb) (by subst_vars; exact hbd)) [0, 1, 2] rfl (by decide) gX10_flows_X10_flowBy rfl rfl rfl (by decide +kernel) ⟨Nat.le_of_ble_eq_true rfl, Nat.le_of_ble_eq_true rfl⟩ rfl rfl rfl rfl rfl (Nat.le_of_ble_eq_true rfl) dX10_flows_41 (Nat.le_of_ble_eq_true rfl) (Nat.le_of_ble_eq_true rfl)) [0, 1, 2] [] rfl rfl (by decide) (by decide) rfl rfl (fun r_10 u_11 h_12 => ?_)
  have e_13 : r_10 = f_X10_flowBy_r S x_7 x_8 x_9 := h_12
  refine sw_eq (ws' := [(h0, .inr (10, [.ref b0, .ref b1, .int np, .int th, .long hh])), (b0, .inl (G.2.1.2, 344, .inr (.inl S))), (b1, .inl (G.2.1.2, 1032, .inr (.inl P)))]) (lv' := [(1, .long r_3), (0, .ref h0)]) (st' := [.long r_10]) rfl rfl rfl ?_
  refine sw_lstore_n (pc := 44) (lv' := [(3, .long r_10), (1, .long r_3), (0, .ref h0)]) F T.1 dX10_flows_44 rfl (by decide) rfl ?_
  refine sw_aload_n (pc := 45) F dX10_flows_45 rfl 2 rfl ?_
  refine sw_get (pc := 46) (Cn := RX10) (T := TX10) (N := 5) (ci := 10) (v := .ref b0) F in10 0 rfl rfl 0 (by decide) rfl (List.mem_of_getElem? (i := 1) rfl) rfl dX10_flows_46 ?_
  refine sw_bipush (pc := 49) (v := 41) F dX10_flows_49 rfl ?_
  refine sw_aload_n (pc := 51) F dX10_flows_51 rfl 2 rfl ?_
  refine sw_get (pc := 52) (Cn := RX10) (T := TX10) (N := 5) (ci := 10) (v := .ref b0) F in10 0 rfl rfl 0 (by decide) rfl (List.mem_of_getElem? (i := 1) rfl) rfl dX10_flows_52 ?_
  refine sw_bipush (pc := 55) (v := 41) F dX10_flows_55 rfl ?_
  refine sw_lald (pc := 57) F 1 rfl (sw_in rfl) dX10_flows_57 ?_
  refine sw_naml (e := S 41) rfl (fun x_14 ex_14 => ?_)
  refine sw_lconst (pc := 58) (v := 1) F dX10_flows_58 rfl ?_
  refine sw_lcmp_ne (pc := 59) (tgt := 82) F dX10_flows_59 dX10_flows_60 (by decide) (fun c_15 => ?_) (fun c_15 => ?_)
  · skip
    refine sw_lload_n (pc := 82) F dX10_flows_82 rfl 0 rfl ?_
    refine sw_aload_n (pc := 83) F dX10_flows_83 rfl 2 rfl ?_
    refine sw_get (pc := 84) (Cn := RX10) (T := TX10) (N := 5) (ci := 10) (v := .ref b0) F in10 0 rfl rfl 0 (by decide) rfl (List.mem_of_getElem? (i := 1) rfl) rfl dX10_flows_84 ?_
    refine sw_iconst (pc := 87) (v := 4) F dX10_flows_87 rfl ?_
    refine sw_lald (pc := 88) F 1 rfl (sw_in rfl) dX10_flows_88 ?_
    refine sw_naml (e := S 4) rfl (fun x_16 ex_16 => ?_)
    refine sw_lcmp_lt (pc := 89) (tgt := 97) F dX10_flows_89 dX10_flows_90 (by decide) (fun c_17 => ?_) (fun c_17 => ?_)
    · skip
      refine sw_lconst (pc := 97) (v := 0) F dX10_flows_97 rfl ?_
      obtain ⟨f_18, ef_18⟩ : ∃ y : Nat → Int64, y = vp_updL S 41 0 := ⟨_, rfl⟩
      refine sw_last (pc := 98) (ws' := [(h0, .inr (10, [.ref b0, .ref b1, .int np, .int th, .long hh])), (b0, .inl (G.2.1.2, 344, .inr (.inl f_18))), (b1, .inl (G.2.1.2, 1032, .inr (.inl P)))]) F 1 rfl (sw_in rfl) dX10_flows_98 (by rw [ef_18]; rfl) ?_
      refine sw_aload_n (pc := 99) F dX10_flows_99 rfl 2 rfl ?_
      refine sw_get (pc := 100) (Cn := RX10) (T := TX10) (N := 5) (ci := 10) (v := .ref b0) F in10 0 rfl rfl 0 (by decide) rfl (List.mem_of_getElem? (i := 1) rfl) rfl dX10_flows_100 ?_
      refine sw_bipush (pc := 103) (v := 40) F dX10_flows_103 rfl ?_
      refine sw_aload_n (pc := 105) F dX10_flows_105 rfl 2 rfl ?_
      refine sw_get (pc := 106) (Cn := RX10) (T := TX10) (N := 5) (ci := 10) (v := .ref b0) F in10 0 rfl rfl 0 (by decide) rfl (List.mem_of_getElem? (i := 1) rfl) rfl dX10_flows_106 ?_
      refine sw_bipush (pc := 109) (v := 41) F dX10_flows_109 rfl ?_
      refine sw_lald (pc := 111) F 1 rfl (sw_in rfl) dX10_flows_111 ?_
      refine sw_naml (e := f_18 41) rfl (fun x_19 ex_19 => ?_)
      refine sw_lconst (pc := 112) (v := 1) F dX10_flows_112 rfl ?_
      refine sw_lcmp_ne (pc := 113) (tgt := 121) F dX10_flows_113 dX10_flows_114 (by decide) (fun c_20 => ?_) (fun c_20 => ?_)
      · skip
        refine sw_lconst (pc := 121) (v := 0) F dX10_flows_121 rfl ?_
        obtain ⟨f_21, ef_21⟩ : ∃ y : Nat → Int64, y = vp_updL f_18 40 0 := ⟨_, rfl⟩
        refine sw_last (pc := 122) (ws' := [(h0, .inr (10, [.ref b0, .ref b1, .int np, .int th, .long hh])), (b0, .inl (G.2.1.2, 344, .inr (.inl f_21))), (b1, .inl (G.2.1.2, 1032, .inr (.inl P)))]) F 1 rfl (sw_in rfl) dX10_flows_122 (by rw [ef_21]; rfl) ?_
        refine sw_aload_n (pc := 123) F dX10_flows_123 rfl 2 rfl ?_
        refine sw_get (pc := 124) (Cn := RX10) (T := TX10) (N := 5) (ci := 10) (v := .ref b0) F in10 0 rfl rfl 0 (by decide) rfl (List.mem_of_getElem? (i := 1) rfl) rfl dX10_flows_124 ?_
        refine sw_bipush (pc := 127) (v := 42) F dX10_flows_127 rfl ?_
        refine sw_dup2 (pc := 129) F dX10_flows_129 rfl rfl ?_
        refine sw_lald (pc := 130) F 1 rfl (sw_in rfl) dX10_flows_130 ?_
        refine sw_naml (e := f_21 42) rfl (fun x_22 ex_22 => ?_)
        refine sw_aload_n (pc := 131) F dX10_flows_131 rfl 2 rfl ?_
        refine sw_get (pc := 132) (Cn := RX10) (T := TX10) (N := 5) (ci := 10) (v := .ref b0) F in10 0 rfl rfl 0 (by decide) rfl (List.mem_of_getElem? (i := 1) rfl) rfl dX10_flows_132 ?_
        refine sw_bipush (pc := 135) (v := 40) F dX10_flows_135 rfl ?_
        refine sw_lald (pc := 137) F 1 rfl (sw_in rfl) dX10_flows_137 ?_
        refine sw_naml (e := f_21 40) rfl (fun x_23 ex_23 => ?_)
        refine sw_ladd (pc := 138) F dX10_flows_138 ?_
        refine sw_topl (fun x_24 ex_24 => ?_)
        obtain ⟨f_25, ef_25⟩ : ∃ y : Nat → Int64, y = vp_updL f_21 42 x_24 := ⟨_, rfl⟩
        refine sw_last (pc := 139) (ws' := [(h0, .inr (10, [.ref b0, .ref b1, .int np, .int th, .long hh])), (b0, .inl (G.2.1.2, 344, .inr (.inl f_25))), (b1, .inl (G.2.1.2, 1032, .inr (.inl P)))]) F 1 rfl (sw_in rfl) dX10_flows_139 (by rw [ef_25]; rfl) ?_
        refine sw_aload_n (pc := 140) F dX10_flows_140 rfl 2 rfl ?_
        refine sw_get (pc := 141) (Cn := RX10) (T := TX10) (N := 5) (ci := 10) (v := .ref b0) F in10 0 rfl rfl 0 (by decide) rfl (List.mem_of_getElem? (i := 1) rfl) rfl dX10_flows_141 ?_
        refine sw_bipush (pc := 144) (v := 43) F dX10_flows_144 rfl ?_
        refine sw_dup2 (pc := 146) F dX10_flows_146 rfl rfl ?_
        refine sw_lald (pc := 147) F 1 rfl (sw_in rfl) dX10_flows_147 ?_
        refine sw_naml (e := f_25 43) rfl (fun x_26 ex_26 => ?_)
        refine sw_lload_n (pc := 148) F dX10_flows_148 rfl 1 rfl ?_
        refine sw_lconst (pc := 149) (v := 0) F dX10_flows_149 rfl ?_
        refine sw_lcmp_ne (pc := 150) (tgt := 158) F dX10_flows_150 dX10_flows_151 (by decide) (fun c_27 => ?_) (fun c_27 => ?_)
        · skip
          refine sw_ldc2 (pc := 158) (v := 10000) F (List.mem_of_getElem? (i := 2) rfl) dX10_flows_158 ?_
          refine sw_aload_n (pc := 161) F dX10_flows_161 rfl 2 rfl ?_
          refine sw_get (pc := 162) (Cn := RX10) (T := TX10) (N := 5) (ci := 10) (v := .ref b0) F in10 0 rfl rfl 0 (by decide) rfl (List.mem_of_getElem? (i := 1) rfl) rfl dX10_flows_162 ?_
          refine sw_bipush (pc := 165) (v := 40) F dX10_flows_165 rfl ?_
          refine sw_lald (pc := 167) F 1 rfl (sw_in rfl) dX10_flows_167 ?_
          refine sw_naml (e := f_25 40) rfl (fun x_28 ex_28 => ?_)
          refine sw_lmul (pc := 168) F dX10_flows_168 ?_
          refine sw_topl (fun x_29 ex_29 => ?_)
          refine sw_lload_n (pc := 169) F dX10_flows_169 rfl 1 rfl ?_
          refine sw_ldiv (pc := 170) F dX10_flows_170 (by assumption) ?_
          refine sw_topl (fun x_30 ex_30 => ?_)
          refine sw_ladd (pc := 171) F dX10_flows_171 ?_
          refine sw_topl (fun x_31 ex_31 => ?_)
          obtain ⟨f_32, ef_32⟩ : ∃ y : Nat → Int64, y = vp_updL f_25 43 x_31 := ⟨_, rfl⟩
          refine sw_last (pc := 172) (ws' := [(h0, .inr (10, [.ref b0, .ref b1, .int np, .int th, .long hh])), (b0, .inl (G.2.1.2, 344, .inr (.inl f_32))), (b1, .inl (G.2.1.2, 1032, .inr (.inl P)))]) F 1 rfl (sw_in rfl) dX10_flows_172 (by rw [ef_32]; rfl) ?_
          subst ef_32
          subst ex_31
          subst ex_30
          subst ex_29
          subst ex_28
          subst ex_26
          subst ef_25
          subst ex_24
          subst ex_23
          subst ex_22
          subst ef_21
          subst ex_19
          subst ef_18
          subst ex_16
          subst ex_14
          subst e_13
          subst ex_9
          subst ex_8
          subst ex_7
          subst e_6
          subst ex_2
          subst ex_1
          exact sw_vret (pc := 173) F T ((vp_updL (vp_updL (vp_updL (vp_updL S 41 0) 40 0) 42 (((vp_updL (vp_updL S 41 0) 40 0) 42) + ((vp_updL (vp_updL S 41 0) 40 0) 40))) 43 (((vp_updL (vp_updL (vp_updL S 41 0) 40 0) 42 (((vp_updL (vp_updL S 41 0) 40 0) 42) + ((vp_updL (vp_updL S 41 0) 40 0) 40))) 43) + ((10000 * ((vp_updL (vp_updL (vp_updL S 41 0) 40 0) 42 (((vp_updL (vp_updL S 41 0) 40 0) 42) + ((vp_updL (vp_updL S 41 0) 40 0) 40))) 40)) / (f_X10_densityAt_r S (S 20) (S 21)))))) (by unfold f_X10_flows_o1; rw [if_neg c_15, if_pos c_17, if_neg c_20, if_neg c_27]) rfl dX10_flows_173
        · skip
          refine sw_lconst (pc := 154) (v := 0) F dX10_flows_154 rfl ?_
          refine sw_goto (pc := 155) (tgt := 171) F dX10_flows_155 (by decide) ?_
          refine sw_ladd (pc := 171) F dX10_flows_171 ?_
          refine sw_topl (fun x_33 ex_33 => ?_)
          obtain ⟨f_34, ef_34⟩ : ∃ y : Nat → Int64, y = vp_updL f_25 43 x_33 := ⟨_, rfl⟩
          refine sw_last (pc := 172) (ws' := [(h0, .inr (10, [.ref b0, .ref b1, .int np, .int th, .long hh])), (b0, .inl (G.2.1.2, 344, .inr (.inl f_34))), (b1, .inl (G.2.1.2, 1032, .inr (.inl P)))]) F 1 rfl (sw_in rfl) dX10_flows_172 (by rw [ef_34]; rfl) ?_
          subst ef_34
          subst ex_33
          subst ex_26
          subst ef_25
          subst ex_24
          subst ex_23
          subst ex_22
          subst ef_21
          subst ex_19
          subst ef_18
          subst ex_16
          subst ex_14
          subst e_13
          subst ex_9
          subst ex_8
          subst ex_7
          subst e_6
          subst ex_2
          subst ex_1
          exact sw_vret (pc := 173) F T ((vp_updL (vp_updL (vp_updL (vp_updL S 41 0) 40 0) 42 (((vp_updL (vp_updL S 41 0) 40 0) 42) + ((vp_updL (vp_updL S 41 0) 40 0) 40))) 43 (((vp_updL (vp_updL (vp_updL S 41 0) 40 0) 42 (((vp_updL (vp_updL S 41 0) 40 0) 42) + ((vp_updL (vp_updL S 41 0) 40 0) 40))) 43) + 0))) (by unfold f_X10_flows_o1; rw [if_neg c_15, if_pos c_17, if_neg c_20, if_pos c_27]) rfl dX10_flows_173
      · skip
        refine sw_lload_n (pc := 117) F dX10_flows_117 rfl 0 rfl ?_
        refine sw_goto (pc := 118) (tgt := 122) F dX10_flows_118 (by decide) ?_
        obtain ⟨f_35, ef_35⟩ : ∃ y : Nat → Int64, y = vp_updL f_18 40 r_10 := ⟨_, rfl⟩
        refine sw_last (pc := 122) (ws' := [(h0, .inr (10, [.ref b0, .ref b1, .int np, .int th, .long hh])), (b0, .inl (G.2.1.2, 344, .inr (.inl f_35))), (b1, .inl (G.2.1.2, 1032, .inr (.inl P)))]) F 1 rfl (sw_in rfl) dX10_flows_122 (by rw [ef_35]; rfl) ?_
        refine sw_aload_n (pc := 123) F dX10_flows_123 rfl 2 rfl ?_
        refine sw_get (pc := 124) (Cn := RX10) (T := TX10) (N := 5) (ci := 10) (v := .ref b0) F in10 0 rfl rfl 0 (by decide) rfl (List.mem_of_getElem? (i := 1) rfl) rfl dX10_flows_124 ?_
        refine sw_bipush (pc := 127) (v := 42) F dX10_flows_127 rfl ?_
        refine sw_dup2 (pc := 129) F dX10_flows_129 rfl rfl ?_
        refine sw_lald (pc := 130) F 1 rfl (sw_in rfl) dX10_flows_130 ?_
        refine sw_naml (e := f_35 42) rfl (fun x_36 ex_36 => ?_)
        refine sw_aload_n (pc := 131) F dX10_flows_131 rfl 2 rfl ?_
        refine sw_get (pc := 132) (Cn := RX10) (T := TX10) (N := 5) (ci := 10) (v := .ref b0) F in10 0 rfl rfl 0 (by decide) rfl (List.mem_of_getElem? (i := 1) rfl) rfl dX10_flows_132 ?_
        refine sw_bipush (pc := 135) (v := 40) F dX10_flows_135 rfl ?_
        refine sw_lald (pc := 137) F 1 rfl (sw_in rfl) dX10_flows_137 ?_
        refine sw_naml (e := f_35 40) rfl (fun x_37 ex_37 => ?_)
        refine sw_ladd (pc := 138) F dX10_flows_138 ?_
        refine sw_topl (fun x_38 ex_38 => ?_)
        obtain ⟨f_39, ef_39⟩ : ∃ y : Nat → Int64, y = vp_updL f_35 42 x_38 := ⟨_, rfl⟩
        refine sw_last (pc := 139) (ws' := [(h0, .inr (10, [.ref b0, .ref b1, .int np, .int th, .long hh])), (b0, .inl (G.2.1.2, 344, .inr (.inl f_39))), (b1, .inl (G.2.1.2, 1032, .inr (.inl P)))]) F 1 rfl (sw_in rfl) dX10_flows_139 (by rw [ef_39]; rfl) ?_
        refine sw_aload_n (pc := 140) F dX10_flows_140 rfl 2 rfl ?_
        refine sw_get (pc := 141) (Cn := RX10) (T := TX10) (N := 5) (ci := 10) (v := .ref b0) F in10 0 rfl rfl 0 (by decide) rfl (List.mem_of_getElem? (i := 1) rfl) rfl dX10_flows_141 ?_
        refine sw_bipush (pc := 144) (v := 43) F dX10_flows_144 rfl ?_
        refine sw_dup2 (pc := 146) F dX10_flows_146 rfl rfl ?_
        refine sw_lald (pc := 147) F 1 rfl (sw_in rfl) dX10_flows_147 ?_
        refine sw_naml (e := f_39 43) rfl (fun x_40 ex_40 => ?_)
        refine sw_lload_n (pc := 148) F dX10_flows_148 rfl 1 rfl ?_
        refine sw_lconst (pc := 149) (v := 0) F dX10_flows_149 rfl ?_
        refine sw_lcmp_ne (pc := 150) (tgt := 158) F dX10_flows_150 dX10_flows_151 (by decide) (fun c_41 => ?_) (fun c_41 => ?_)
        · skip
          refine sw_ldc2 (pc := 158) (v := 10000) F (List.mem_of_getElem? (i := 2) rfl) dX10_flows_158 ?_
          refine sw_aload_n (pc := 161) F dX10_flows_161 rfl 2 rfl ?_
          refine sw_get (pc := 162) (Cn := RX10) (T := TX10) (N := 5) (ci := 10) (v := .ref b0) F in10 0 rfl rfl 0 (by decide) rfl (List.mem_of_getElem? (i := 1) rfl) rfl dX10_flows_162 ?_
          refine sw_bipush (pc := 165) (v := 40) F dX10_flows_165 rfl ?_
          refine sw_lald (pc := 167) F 1 rfl (sw_in rfl) dX10_flows_167 ?_
          refine sw_naml (e := f_39 40) rfl (fun x_42 ex_42 => ?_)
          refine sw_lmul (pc := 168) F dX10_flows_168 ?_
          refine sw_topl (fun x_43 ex_43 => ?_)
          refine sw_lload_n (pc := 169) F dX10_flows_169 rfl 1 rfl ?_
          refine sw_ldiv (pc := 170) F dX10_flows_170 (by assumption) ?_
          refine sw_topl (fun x_44 ex_44 => ?_)
          refine sw_ladd (pc := 171) F dX10_flows_171 ?_
          refine sw_topl (fun x_45 ex_45 => ?_)
          obtain ⟨f_46, ef_46⟩ : ∃ y : Nat → Int64, y = vp_updL f_39 43 x_45 := ⟨_, rfl⟩
          refine sw_last (pc := 172) (ws' := [(h0, .inr (10, [.ref b0, .ref b1, .int np, .int th, .long hh])), (b0, .inl (G.2.1.2, 344, .inr (.inl f_46))), (b1, .inl (G.2.1.2, 1032, .inr (.inl P)))]) F 1 rfl (sw_in rfl) dX10_flows_172 (by rw [ef_46]; rfl) ?_
          subst ef_46
          subst ex_45
          subst ex_44
          subst ex_43
          subst ex_42
          subst ex_40
          subst ef_39
          subst ex_38
          subst ex_37
          subst ex_36
          subst ef_35
          subst ex_19
          subst ef_18
          subst ex_16
          subst ex_14
          subst e_13
          subst ex_9
          subst ex_8
          subst ex_7
          subst e_6
          subst ex_2
          subst ex_1
          exact sw_vret (pc := 173) F T ((vp_updL (vp_updL (vp_updL (vp_updL S 41 0) 40 (f_X10_flowBy_r S (S 39) (S 20) (S 21))) 42 (((vp_updL (vp_updL S 41 0) 40 (f_X10_flowBy_r S (S 39) (S 20) (S 21))) 42) + ((vp_updL (vp_updL S 41 0) 40 (f_X10_flowBy_r S (S 39) (S 20) (S 21))) 40))) 43 (((vp_updL (vp_updL (vp_updL S 41 0) 40 (f_X10_flowBy_r S (S 39) (S 20) (S 21))) 42 (((vp_updL (vp_updL S 41 0) 40 (f_X10_flowBy_r S (S 39) (S 20) (S 21))) 42) + ((vp_updL (vp_updL S 41 0) 40 (f_X10_flowBy_r S (S 39) (S 20) (S 21))) 40))) 43) + ((10000 * ((vp_updL (vp_updL (vp_updL S 41 0) 40 (f_X10_flowBy_r S (S 39) (S 20) (S 21))) 42 (((vp_updL (vp_updL S 41 0) 40 (f_X10_flowBy_r S (S 39) (S 20) (S 21))) 42) + ((vp_updL (vp_updL S 41 0) 40 (f_X10_flowBy_r S (S 39) (S 20) (S 21))) 40))) 40)) / (f_X10_densityAt_r S (S 20) (S 21)))))) (by unfold f_X10_flows_o1; rw [if_neg c_15, if_pos c_17, if_pos c_20, if_neg c_41]) rfl dX10_flows_173
        · skip
          refine sw_lconst (pc := 154) (v := 0) F dX10_flows_154 rfl ?_
          refine sw_goto (pc := 155) (tgt := 171) F dX10_flows_155 (by decide) ?_
          refine sw_ladd (pc := 171) F dX10_flows_171 ?_
          refine sw_topl (fun x_47 ex_47 => ?_)
          obtain ⟨f_48, ef_48⟩ : ∃ y : Nat → Int64, y = vp_updL f_39 43 x_47 := ⟨_, rfl⟩
          refine sw_last (pc := 172) (ws' := [(h0, .inr (10, [.ref b0, .ref b1, .int np, .int th, .long hh])), (b0, .inl (G.2.1.2, 344, .inr (.inl f_48))), (b1, .inl (G.2.1.2, 1032, .inr (.inl P)))]) F 1 rfl (sw_in rfl) dX10_flows_172 (by rw [ef_48]; rfl) ?_
          subst ef_48
          subst ex_47
          subst ex_40
          subst ef_39
          subst ex_38
          subst ex_37
          subst ex_36
          subst ef_35
          subst ex_19
          subst ef_18
          subst ex_16
          subst ex_14
          subst e_13
          subst ex_9
          subst ex_8
          subst ex_7
          subst e_6
          subst ex_2
          subst ex_1
          exact sw_vret (pc := 173) F T ((vp_updL (vp_updL (vp_updL (vp_updL S 41 0) 40 (f_X10_flowBy_r S (S 39) (S 20) (S 21))) 42 (((vp_updL (vp_updL S 41 0) 40 (f_X10_flowBy_r S (S 39) (S 20) (S 21))) 42) + ((vp_updL (vp_updL S 41 0) 40 (f_X10_flowBy_r S (S 39) (S 20) (S 21))) 40))) 43 (((vp_updL (vp_updL (vp_updL S 41 0) 40 (f_X10_flowBy_r S (S 39) (S 20) (S 21))) 42 (((vp_updL (vp_updL S 41 0) 40 (f_X10_flowBy_r S (S 39) (S 20) (S 21))) 42) + ((vp_updL (vp_updL S 41 0) 40 (f_X10_flowBy_r S (S 39) (S 20) (S 21))) 40))) 43) + 0))) (by unfold f_X10_flows_o1; rw [if_neg c_15, if_pos c_17, if_pos c_20, if_pos c_41]) rfl dX10_flows_173
    · skip
      refine sw_lconst (pc := 93) (v := 1) F dX10_flows_93 rfl ?_
      refine sw_goto (pc := 94) (tgt := 98) F dX10_flows_94 (by decide) ?_
      obtain ⟨f_49, ef_49⟩ : ∃ y : Nat → Int64, y = vp_updL S 41 1 := ⟨_, rfl⟩
      refine sw_last (pc := 98) (ws' := [(h0, .inr (10, [.ref b0, .ref b1, .int np, .int th, .long hh])), (b0, .inl (G.2.1.2, 344, .inr (.inl f_49))), (b1, .inl (G.2.1.2, 1032, .inr (.inl P)))]) F 1 rfl (sw_in rfl) dX10_flows_98 (by rw [ef_49]; rfl) ?_
      refine sw_aload_n (pc := 99) F dX10_flows_99 rfl 2 rfl ?_
      refine sw_get (pc := 100) (Cn := RX10) (T := TX10) (N := 5) (ci := 10) (v := .ref b0) F in10 0 rfl rfl 0 (by decide) rfl (List.mem_of_getElem? (i := 1) rfl) rfl dX10_flows_100 ?_
      refine sw_bipush (pc := 103) (v := 40) F dX10_flows_103 rfl ?_
      refine sw_aload_n (pc := 105) F dX10_flows_105 rfl 2 rfl ?_
      refine sw_get (pc := 106) (Cn := RX10) (T := TX10) (N := 5) (ci := 10) (v := .ref b0) F in10 0 rfl rfl 0 (by decide) rfl (List.mem_of_getElem? (i := 1) rfl) rfl dX10_flows_106 ?_
      refine sw_bipush (pc := 109) (v := 41) F dX10_flows_109 rfl ?_
      refine sw_lald (pc := 111) F 1 rfl (sw_in rfl) dX10_flows_111 ?_
      refine sw_naml (e := f_49 41) rfl (fun x_50 ex_50 => ?_)
      refine sw_lconst (pc := 112) (v := 1) F dX10_flows_112 rfl ?_
      refine sw_lcmp_ne (pc := 113) (tgt := 121) F dX10_flows_113 dX10_flows_114 (by decide) (fun c_51 => ?_) (fun c_51 => ?_)
      · skip
        refine sw_lconst (pc := 121) (v := 0) F dX10_flows_121 rfl ?_
        obtain ⟨f_52, ef_52⟩ : ∃ y : Nat → Int64, y = vp_updL f_49 40 0 := ⟨_, rfl⟩
        refine sw_last (pc := 122) (ws' := [(h0, .inr (10, [.ref b0, .ref b1, .int np, .int th, .long hh])), (b0, .inl (G.2.1.2, 344, .inr (.inl f_52))), (b1, .inl (G.2.1.2, 1032, .inr (.inl P)))]) F 1 rfl (sw_in rfl) dX10_flows_122 (by rw [ef_52]; rfl) ?_
        refine sw_aload_n (pc := 123) F dX10_flows_123 rfl 2 rfl ?_
        refine sw_get (pc := 124) (Cn := RX10) (T := TX10) (N := 5) (ci := 10) (v := .ref b0) F in10 0 rfl rfl 0 (by decide) rfl (List.mem_of_getElem? (i := 1) rfl) rfl dX10_flows_124 ?_
        refine sw_bipush (pc := 127) (v := 42) F dX10_flows_127 rfl ?_
        refine sw_dup2 (pc := 129) F dX10_flows_129 rfl rfl ?_
        refine sw_lald (pc := 130) F 1 rfl (sw_in rfl) dX10_flows_130 ?_
        refine sw_naml (e := f_52 42) rfl (fun x_53 ex_53 => ?_)
        refine sw_aload_n (pc := 131) F dX10_flows_131 rfl 2 rfl ?_
        refine sw_get (pc := 132) (Cn := RX10) (T := TX10) (N := 5) (ci := 10) (v := .ref b0) F in10 0 rfl rfl 0 (by decide) rfl (List.mem_of_getElem? (i := 1) rfl) rfl dX10_flows_132 ?_
        refine sw_bipush (pc := 135) (v := 40) F dX10_flows_135 rfl ?_
        refine sw_lald (pc := 137) F 1 rfl (sw_in rfl) dX10_flows_137 ?_
        refine sw_naml (e := f_52 40) rfl (fun x_54 ex_54 => ?_)
        refine sw_ladd (pc := 138) F dX10_flows_138 ?_
        refine sw_topl (fun x_55 ex_55 => ?_)
        obtain ⟨f_56, ef_56⟩ : ∃ y : Nat → Int64, y = vp_updL f_52 42 x_55 := ⟨_, rfl⟩
        refine sw_last (pc := 139) (ws' := [(h0, .inr (10, [.ref b0, .ref b1, .int np, .int th, .long hh])), (b0, .inl (G.2.1.2, 344, .inr (.inl f_56))), (b1, .inl (G.2.1.2, 1032, .inr (.inl P)))]) F 1 rfl (sw_in rfl) dX10_flows_139 (by rw [ef_56]; rfl) ?_
        refine sw_aload_n (pc := 140) F dX10_flows_140 rfl 2 rfl ?_
        refine sw_get (pc := 141) (Cn := RX10) (T := TX10) (N := 5) (ci := 10) (v := .ref b0) F in10 0 rfl rfl 0 (by decide) rfl (List.mem_of_getElem? (i := 1) rfl) rfl dX10_flows_141 ?_
        refine sw_bipush (pc := 144) (v := 43) F dX10_flows_144 rfl ?_
        refine sw_dup2 (pc := 146) F dX10_flows_146 rfl rfl ?_
        refine sw_lald (pc := 147) F 1 rfl (sw_in rfl) dX10_flows_147 ?_
        refine sw_naml (e := f_56 43) rfl (fun x_57 ex_57 => ?_)
        refine sw_lload_n (pc := 148) F dX10_flows_148 rfl 1 rfl ?_
        refine sw_lconst (pc := 149) (v := 0) F dX10_flows_149 rfl ?_
        refine sw_lcmp_ne (pc := 150) (tgt := 158) F dX10_flows_150 dX10_flows_151 (by decide) (fun c_58 => ?_) (fun c_58 => ?_)
        · skip
          refine sw_ldc2 (pc := 158) (v := 10000) F (List.mem_of_getElem? (i := 2) rfl) dX10_flows_158 ?_
          refine sw_aload_n (pc := 161) F dX10_flows_161 rfl 2 rfl ?_
          refine sw_get (pc := 162) (Cn := RX10) (T := TX10) (N := 5) (ci := 10) (v := .ref b0) F in10 0 rfl rfl 0 (by decide) rfl (List.mem_of_getElem? (i := 1) rfl) rfl dX10_flows_162 ?_
          refine sw_bipush (pc := 165) (v := 40) F dX10_flows_165 rfl ?_
          refine sw_lald (pc := 167) F 1 rfl (sw_in rfl) dX10_flows_167 ?_
          refine sw_naml (e := f_56 40) rfl (fun x_59 ex_59 => ?_)
          refine sw_lmul (pc := 168) F dX10_flows_168 ?_
          refine sw_topl (fun x_60 ex_60 => ?_)
          refine sw_lload_n (pc := 169) F dX10_flows_169 rfl 1 rfl ?_
          refine sw_ldiv (pc := 170) F dX10_flows_170 (by assumption) ?_
          refine sw_topl (fun x_61 ex_61 => ?_)
          refine sw_ladd (pc := 171) F dX10_flows_171 ?_
          refine sw_topl (fun x_62 ex_62 => ?_)
          obtain ⟨f_63, ef_63⟩ : ∃ y : Nat → Int64, y = vp_updL f_56 43 x_62 := ⟨_, rfl⟩
          refine sw_last (pc := 172) (ws' := [(h0, .inr (10, [.ref b0, .ref b1, .int np, .int th, .long hh])), (b0, .inl (G.2.1.2, 344, .inr (.inl f_63))), (b1, .inl (G.2.1.2, 1032, .inr (.inl P)))]) F 1 rfl (sw_in rfl) dX10_flows_172 (by rw [ef_63]; rfl) ?_
          subst ef_63
          subst ex_62
          subst ex_61
          subst ex_60
          subst ex_59
          subst ex_57
          subst ef_56
          subst ex_55
          subst ex_54
          subst ex_53
          subst ef_52
          subst ex_50
          subst ef_49
          subst ex_16
          subst ex_14
          subst e_13
          subst ex_9
          subst ex_8
          subst ex_7
          subst e_6
          subst ex_2
          subst ex_1
          exact sw_vret (pc := 173) F T ((vp_updL (vp_updL (vp_updL (vp_updL S 41 1) 40 0) 42 (((vp_updL (vp_updL S 41 1) 40 0) 42) + ((vp_updL (vp_updL S 41 1) 40 0) 40))) 43 (((vp_updL (vp_updL (vp_updL S 41 1) 40 0) 42 (((vp_updL (vp_updL S 41 1) 40 0) 42) + ((vp_updL (vp_updL S 41 1) 40 0) 40))) 43) + ((10000 * ((vp_updL (vp_updL (vp_updL S 41 1) 40 0) 42 (((vp_updL (vp_updL S 41 1) 40 0) 42) + ((vp_updL (vp_updL S 41 1) 40 0) 40))) 40)) / (f_X10_densityAt_r S (S 20) (S 21)))))) (by unfold f_X10_flows_o1; rw [if_neg c_15, if_neg c_17, if_neg c_51, if_neg c_58]) rfl dX10_flows_173
        · skip
          refine sw_lconst (pc := 154) (v := 0) F dX10_flows_154 rfl ?_
          refine sw_goto (pc := 155) (tgt := 171) F dX10_flows_155 (by decide) ?_
          refine sw_ladd (pc := 171) F dX10_flows_171 ?_
          refine sw_topl (fun x_64 ex_64 => ?_)
          obtain ⟨f_65, ef_65⟩ : ∃ y : Nat → Int64, y = vp_updL f_56 43 x_64 := ⟨_, rfl⟩
          refine sw_last (pc := 172) (ws' := [(h0, .inr (10, [.ref b0, .ref b1, .int np, .int th, .long hh])), (b0, .inl (G.2.1.2, 344, .inr (.inl f_65))), (b1, .inl (G.2.1.2, 1032, .inr (.inl P)))]) F 1 rfl (sw_in rfl) dX10_flows_172 (by rw [ef_65]; rfl) ?_
          subst ef_65
          subst ex_64
          subst ex_57
          subst ef_56
          subst ex_55
          subst ex_54
          subst ex_53
          subst ef_52
          subst ex_50
          subst ef_49
          subst ex_16
          subst ex_14
          subst e_13
          subst ex_9
          subst ex_8
          subst ex_7
          subst e_6
          subst ex_2
          subst ex_1
          exact sw_vret (pc := 173) F T ((vp_updL (vp_updL (vp_updL (vp_updL S 41 1) 40 0) 42 (((vp_updL (vp_updL S 41 1) 40 0) 42) + ((vp_updL (vp_updL S 41 1) 40 0) 40))) 43 (((vp_updL (vp_updL (vp_updL S 41 1) 40 0) 42 (((vp_updL (vp_updL S 41 1) 40 0) 42) + ((vp_updL (vp_updL S 41 1) 40 0) 40))) 43) + 0))) (by unfold f_X10_flows_o1; rw [if_neg c_15, if_neg c_17, if_neg c_51, if_pos c_58]) rfl dX10_flows_173
      · skip
        refine sw_lload_n (pc := 117) F dX10_flows_117 rfl 0 rfl ?_
        refine sw_goto (pc := 118) (tgt := 122) F dX10_flows_118 (by decide) ?_
        obtain ⟨f_66, ef_66⟩ : ∃ y : Nat → Int64, y = vp_updL f_49 40 r_10 := ⟨_, rfl⟩
        refine sw_last (pc := 122) (ws' := [(h0, .inr (10, [.ref b0, .ref b1, .int np, .int th, .long hh])), (b0, .inl (G.2.1.2, 344, .inr (.inl f_66))), (b1, .inl (G.2.1.2, 1032, .inr (.inl P)))]) F 1 rfl (sw_in rfl) dX10_flows_122 (by rw [ef_66]; rfl) ?_
        refine sw_aload_n (pc := 123) F dX10_flows_123 rfl 2 rfl ?_
        refine sw_get (pc := 124) (Cn := RX10) (T := TX10) (N := 5) (ci := 10) (v := .ref b0) F in10 0 rfl rfl 0 (by decide) rfl (List.mem_of_getElem? (i := 1) rfl) rfl dX10_flows_124 ?_
        refine sw_bipush (pc := 127) (v := 42) F dX10_flows_127 rfl ?_
        refine sw_dup2 (pc := 129) F dX10_flows_129 rfl rfl ?_
        refine sw_lald (pc := 130) F 1 rfl (sw_in rfl) dX10_flows_130 ?_
        refine sw_naml (e := f_66 42) rfl (fun x_67 ex_67 => ?_)
        refine sw_aload_n (pc := 131) F dX10_flows_131 rfl 2 rfl ?_
        refine sw_get (pc := 132) (Cn := RX10) (T := TX10) (N := 5) (ci := 10) (v := .ref b0) F in10 0 rfl rfl 0 (by decide) rfl (List.mem_of_getElem? (i := 1) rfl) rfl dX10_flows_132 ?_
        refine sw_bipush (pc := 135) (v := 40) F dX10_flows_135 rfl ?_
        refine sw_lald (pc := 137) F 1 rfl (sw_in rfl) dX10_flows_137 ?_
        refine sw_naml (e := f_66 40) rfl (fun x_68 ex_68 => ?_)
        refine sw_ladd (pc := 138) F dX10_flows_138 ?_
        refine sw_topl (fun x_69 ex_69 => ?_)
        obtain ⟨f_70, ef_70⟩ : ∃ y : Nat → Int64, y = vp_updL f_66 42 x_69 := ⟨_, rfl⟩
        refine sw_last (pc := 139) (ws' := [(h0, .inr (10, [.ref b0, .ref b1, .int np, .int th, .long hh])), (b0, .inl (G.2.1.2, 344, .inr (.inl f_70))), (b1, .inl (G.2.1.2, 1032, .inr (.inl P)))]) F 1 rfl (sw_in rfl) dX10_flows_139 (by rw [ef_70]; rfl) ?_
        refine sw_aload_n (pc := 140) F dX10_flows_140 rfl 2 rfl ?_
        refine sw_get (pc := 141) (Cn := RX10) (T := TX10) (N := 5) (ci := 10) (v := .ref b0) F in10 0 rfl rfl 0 (by decide) rfl (List.mem_of_getElem? (i := 1) rfl) rfl dX10_flows_141 ?_
        refine sw_bipush (pc := 144) (v := 43) F dX10_flows_144 rfl ?_
        refine sw_dup2 (pc := 146) F dX10_flows_146 rfl rfl ?_
        refine sw_lald (pc := 147) F 1 rfl (sw_in rfl) dX10_flows_147 ?_
        refine sw_naml (e := f_70 43) rfl (fun x_71 ex_71 => ?_)
        refine sw_lload_n (pc := 148) F dX10_flows_148 rfl 1 rfl ?_
        refine sw_lconst (pc := 149) (v := 0) F dX10_flows_149 rfl ?_
        refine sw_lcmp_ne (pc := 150) (tgt := 158) F dX10_flows_150 dX10_flows_151 (by decide) (fun c_72 => ?_) (fun c_72 => ?_)
        · skip
          refine sw_ldc2 (pc := 158) (v := 10000) F (List.mem_of_getElem? (i := 2) rfl) dX10_flows_158 ?_
          refine sw_aload_n (pc := 161) F dX10_flows_161 rfl 2 rfl ?_
          refine sw_get (pc := 162) (Cn := RX10) (T := TX10) (N := 5) (ci := 10) (v := .ref b0) F in10 0 rfl rfl 0 (by decide) rfl (List.mem_of_getElem? (i := 1) rfl) rfl dX10_flows_162 ?_
          refine sw_bipush (pc := 165) (v := 40) F dX10_flows_165 rfl ?_
          refine sw_lald (pc := 167) F 1 rfl (sw_in rfl) dX10_flows_167 ?_
          refine sw_naml (e := f_70 40) rfl (fun x_73 ex_73 => ?_)
          refine sw_lmul (pc := 168) F dX10_flows_168 ?_
          refine sw_topl (fun x_74 ex_74 => ?_)
          refine sw_lload_n (pc := 169) F dX10_flows_169 rfl 1 rfl ?_
          refine sw_ldiv (pc := 170) F dX10_flows_170 (by assumption) ?_
          refine sw_topl (fun x_75 ex_75 => ?_)
          refine sw_ladd (pc := 171) F dX10_flows_171 ?_
          refine sw_topl (fun x_76 ex_76 => ?_)
          obtain ⟨f_77, ef_77⟩ : ∃ y : Nat → Int64, y = vp_updL f_70 43 x_76 := ⟨_, rfl⟩
          refine sw_last (pc := 172) (ws' := [(h0, .inr (10, [.ref b0, .ref b1, .int np, .int th, .long hh])), (b0, .inl (G.2.1.2, 344, .inr (.inl f_77))), (b1, .inl (G.2.1.2, 1032, .inr (.inl P)))]) F 1 rfl (sw_in rfl) dX10_flows_172 (by rw [ef_77]; rfl) ?_
          subst ef_77
          subst ex_76
          subst ex_75
          subst ex_74
          subst ex_73
          subst ex_71
          subst ef_70
          subst ex_69
          subst ex_68
          subst ex_67
          subst ef_66
          subst ex_50
          subst ef_49
          subst ex_16
          subst ex_14
          subst e_13
          subst ex_9
          subst ex_8
          subst ex_7
          subst e_6
          subst ex_2
          subst ex_1
          exact sw_vret (pc := 173) F T ((vp_updL (vp_updL (vp_updL (vp_updL S 41 1) 40 (f_X10_flowBy_r S (S 39) (S 20) (S 21))) 42 (((vp_updL (vp_updL S 41 1) 40 (f_X10_flowBy_r S (S 39) (S 20) (S 21))) 42) + ((vp_updL (vp_updL S 41 1) 40 (f_X10_flowBy_r S (S 39) (S 20) (S 21))) 40))) 43 (((vp_updL (vp_updL (vp_updL S 41 1) 40 (f_X10_flowBy_r S (S 39) (S 20) (S 21))) 42 (((vp_updL (vp_updL S 41 1) 40 (f_X10_flowBy_r S (S 39) (S 20) (S 21))) 42) + ((vp_updL (vp_updL S 41 1) 40 (f_X10_flowBy_r S (S 39) (S 20) (S 21))) 40))) 43) + ((10000 * ((vp_updL (vp_updL (vp_updL S 41 1) 40 (f_X10_flowBy_r S (S 39) (S 20) (S 21))) 42 (((vp_updL (vp_updL S 41 1) 40 (f_X10_flowBy_r S (S 39) (S 20) (S 21))) 42) + ((vp_updL (vp_updL S 41 1) 40 (f_X10_flowBy_r S (S 39) (S 20) (S 21))) 40))) 40)) / (f_X10_densityAt_r S (S 20) (S 21)))))) (by unfold f_X10_flows_o1; rw [if_neg c_15, if_neg c_17, if_pos c_51, if_neg c_72]) rfl dX10_flows_173
        · skip
          refine sw_lconst (pc := 154) (v := 0) F dX10_flows_154 rfl ?_
          refine sw_goto (pc := 155) (tgt := 171) F dX10_flows_155 (by decide) ?_
          refine sw_ladd (pc := 171) F dX10_flows_171 ?_
          refine sw_topl (fun x_78 ex_78 => ?_)
          obtain ⟨f_79, ef_79⟩ : ∃ y : Nat → Int64, y = vp_updL f_70 43 x_78 := ⟨_, rfl⟩
          refine sw_last (pc := 172) (ws' := [(h0, .inr (10, [.ref b0, .ref b1, .int np, .int th, .long hh])), (b0, .inl (G.2.1.2, 344, .inr (.inl f_79))), (b1, .inl (G.2.1.2, 1032, .inr (.inl P)))]) F 1 rfl (sw_in rfl) dX10_flows_172 (by rw [ef_79]; rfl) ?_
          subst ef_79
          subst ex_78
          subst ex_71
          subst ef_70
          subst ex_69
          subst ex_68
          subst ex_67
          subst ef_66
          subst ex_50
          subst ef_49
          subst ex_16
          subst ex_14
          subst e_13
          subst ex_9
          subst ex_8
          subst ex_7
          subst e_6
          subst ex_2
          subst ex_1
          exact sw_vret (pc := 173) F T ((vp_updL (vp_updL (vp_updL (vp_updL S 41 1) 40 (f_X10_flowBy_r S (S 39) (S 20) (S 21))) 42 (((vp_updL (vp_updL S 41 1) 40 (f_X10_flowBy_r S (S 39) (S 20) (S 21))) 42) + ((vp_updL (vp_updL S 41 1) 40 (f_X10_flowBy_r S (S 39) (S 20) (S 21))) 40))) 43 (((vp_updL (vp_updL (vp_updL S 41 1) 40 (f_X10_flowBy_r S (S 39) (S 20) (S 21))) 42 (((vp_updL (vp_updL S 41 1) 40 (f_X10_flowBy_r S (S 39) (S 20) (S 21))) 42) + ((vp_updL (vp_updL S 41 1) 40 (f_X10_flowBy_r S (S 39) (S 20) (S 21))) 40))) 43) + 0))) (by unfold f_X10_flows_o1; rw [if_neg c_15, if_neg c_17, if_pos c_51, if_pos c_72]) rfl dX10_flows_173
  · skip
    refine sw_lload_n (pc := 63) F dX10_flows_63 rfl 0 rfl ?_
    refine sw_aload_n (pc := 64) F dX10_flows_64 rfl 2 rfl ?_
    refine sw_get (pc := 65) (Cn := RX10) (T := TX10) (N := 5) (ci := 10) (v := .ref b0) F in10 0 rfl rfl 0 (by decide) rfl (List.mem_of_getElem? (i := 1) rfl) rfl dX10_flows_65 ?_
    refine sw_iconst (pc := 68) (v := 3) F dX10_flows_68 rfl ?_
    refine sw_lald (pc := 69) F 1 rfl (sw_in rfl) dX10_flows_69 ?_
    refine sw_naml (e := S 3) rfl (fun x_80 ex_80 => ?_)
    refine sw_lcmp_ge (pc := 70) (tgt := 78) F dX10_flows_70 dX10_flows_71 (by decide) (fun c_81 => ?_) (fun c_81 => ?_)
    · skip
      refine sw_lconst (pc := 78) (v := 1) F dX10_flows_78 rfl ?_
      refine sw_goto (pc := 79) (tgt := 98) F dX10_flows_79 (by decide) ?_
      obtain ⟨f_82, ef_82⟩ : ∃ y : Nat → Int64, y = vp_updL S 41 1 := ⟨_, rfl⟩
      refine sw_last (pc := 98) (ws' := [(h0, .inr (10, [.ref b0, .ref b1, .int np, .int th, .long hh])), (b0, .inl (G.2.1.2, 344, .inr (.inl f_82))), (b1, .inl (G.2.1.2, 1032, .inr (.inl P)))]) F 1 rfl (sw_in rfl) dX10_flows_98 (by rw [ef_82]; rfl) ?_
      refine sw_aload_n (pc := 99) F dX10_flows_99 rfl 2 rfl ?_
      refine sw_get (pc := 100) (Cn := RX10) (T := TX10) (N := 5) (ci := 10) (v := .ref b0) F in10 0 rfl rfl 0 (by decide) rfl (List.mem_of_getElem? (i := 1) rfl) rfl dX10_flows_100 ?_
      refine sw_bipush (pc := 103) (v := 40) F dX10_flows_103 rfl ?_
      refine sw_aload_n (pc := 105) F dX10_flows_105 rfl 2 rfl ?_
      refine sw_get (pc := 106) (Cn := RX10) (T := TX10) (N := 5) (ci := 10) (v := .ref b0) F in10 0 rfl rfl 0 (by decide) rfl (List.mem_of_getElem? (i := 1) rfl) rfl dX10_flows_106 ?_
      refine sw_bipush (pc := 109) (v := 41) F dX10_flows_109 rfl ?_
      refine sw_lald (pc := 111) F 1 rfl (sw_in rfl) dX10_flows_111 ?_
      refine sw_naml (e := f_82 41) rfl (fun x_83 ex_83 => ?_)
      refine sw_lconst (pc := 112) (v := 1) F dX10_flows_112 rfl ?_
      refine sw_lcmp_ne (pc := 113) (tgt := 121) F dX10_flows_113 dX10_flows_114 (by decide) (fun c_84 => ?_) (fun c_84 => ?_)
      · skip
        refine sw_lconst (pc := 121) (v := 0) F dX10_flows_121 rfl ?_
        obtain ⟨f_85, ef_85⟩ : ∃ y : Nat → Int64, y = vp_updL f_82 40 0 := ⟨_, rfl⟩
        refine sw_last (pc := 122) (ws' := [(h0, .inr (10, [.ref b0, .ref b1, .int np, .int th, .long hh])), (b0, .inl (G.2.1.2, 344, .inr (.inl f_85))), (b1, .inl (G.2.1.2, 1032, .inr (.inl P)))]) F 1 rfl (sw_in rfl) dX10_flows_122 (by rw [ef_85]; rfl) ?_
        refine sw_aload_n (pc := 123) F dX10_flows_123 rfl 2 rfl ?_
        refine sw_get (pc := 124) (Cn := RX10) (T := TX10) (N := 5) (ci := 10) (v := .ref b0) F in10 0 rfl rfl 0 (by decide) rfl (List.mem_of_getElem? (i := 1) rfl) rfl dX10_flows_124 ?_
        refine sw_bipush (pc := 127) (v := 42) F dX10_flows_127 rfl ?_
        refine sw_dup2 (pc := 129) F dX10_flows_129 rfl rfl ?_
        refine sw_lald (pc := 130) F 1 rfl (sw_in rfl) dX10_flows_130 ?_
        refine sw_naml (e := f_85 42) rfl (fun x_86 ex_86 => ?_)
        refine sw_aload_n (pc := 131) F dX10_flows_131 rfl 2 rfl ?_
        refine sw_get (pc := 132) (Cn := RX10) (T := TX10) (N := 5) (ci := 10) (v := .ref b0) F in10 0 rfl rfl 0 (by decide) rfl (List.mem_of_getElem? (i := 1) rfl) rfl dX10_flows_132 ?_
        refine sw_bipush (pc := 135) (v := 40) F dX10_flows_135 rfl ?_
        refine sw_lald (pc := 137) F 1 rfl (sw_in rfl) dX10_flows_137 ?_
        refine sw_naml (e := f_85 40) rfl (fun x_87 ex_87 => ?_)
        refine sw_ladd (pc := 138) F dX10_flows_138 ?_
        refine sw_topl (fun x_88 ex_88 => ?_)
        obtain ⟨f_89, ef_89⟩ : ∃ y : Nat → Int64, y = vp_updL f_85 42 x_88 := ⟨_, rfl⟩
        refine sw_last (pc := 139) (ws' := [(h0, .inr (10, [.ref b0, .ref b1, .int np, .int th, .long hh])), (b0, .inl (G.2.1.2, 344, .inr (.inl f_89))), (b1, .inl (G.2.1.2, 1032, .inr (.inl P)))]) F 1 rfl (sw_in rfl) dX10_flows_139 (by rw [ef_89]; rfl) ?_
        refine sw_aload_n (pc := 140) F dX10_flows_140 rfl 2 rfl ?_
        refine sw_get (pc := 141) (Cn := RX10) (T := TX10) (N := 5) (ci := 10) (v := .ref b0) F in10 0 rfl rfl 0 (by decide) rfl (List.mem_of_getElem? (i := 1) rfl) rfl dX10_flows_141 ?_
        refine sw_bipush (pc := 144) (v := 43) F dX10_flows_144 rfl ?_
        refine sw_dup2 (pc := 146) F dX10_flows_146 rfl rfl ?_
        refine sw_lald (pc := 147) F 1 rfl (sw_in rfl) dX10_flows_147 ?_
        refine sw_naml (e := f_89 43) rfl (fun x_90 ex_90 => ?_)
        refine sw_lload_n (pc := 148) F dX10_flows_148 rfl 1 rfl ?_
        refine sw_lconst (pc := 149) (v := 0) F dX10_flows_149 rfl ?_
        refine sw_lcmp_ne (pc := 150) (tgt := 158) F dX10_flows_150 dX10_flows_151 (by decide) (fun c_91 => ?_) (fun c_91 => ?_)
        · skip
          refine sw_ldc2 (pc := 158) (v := 10000) F (List.mem_of_getElem? (i := 2) rfl) dX10_flows_158 ?_
          refine sw_aload_n (pc := 161) F dX10_flows_161 rfl 2 rfl ?_
          refine sw_get (pc := 162) (Cn := RX10) (T := TX10) (N := 5) (ci := 10) (v := .ref b0) F in10 0 rfl rfl 0 (by decide) rfl (List.mem_of_getElem? (i := 1) rfl) rfl dX10_flows_162 ?_
          refine sw_bipush (pc := 165) (v := 40) F dX10_flows_165 rfl ?_
          refine sw_lald (pc := 167) F 1 rfl (sw_in rfl) dX10_flows_167 ?_
          refine sw_naml (e := f_89 40) rfl (fun x_92 ex_92 => ?_)
          refine sw_lmul (pc := 168) F dX10_flows_168 ?_
          refine sw_topl (fun x_93 ex_93 => ?_)
          refine sw_lload_n (pc := 169) F dX10_flows_169 rfl 1 rfl ?_
          refine sw_ldiv (pc := 170) F dX10_flows_170 (by assumption) ?_
          refine sw_topl (fun x_94 ex_94 => ?_)
          refine sw_ladd (pc := 171) F dX10_flows_171 ?_
          refine sw_topl (fun x_95 ex_95 => ?_)
          obtain ⟨f_96, ef_96⟩ : ∃ y : Nat → Int64, y = vp_updL f_89 43 x_95 := ⟨_, rfl⟩
          refine sw_last (pc := 172) (ws' := [(h0, .inr (10, [.ref b0, .ref b1, .int np, .int th, .long hh])), (b0, .inl (G.2.1.2, 344, .inr (.inl f_96))), (b1, .inl (G.2.1.2, 1032, .inr (.inl P)))]) F 1 rfl (sw_in rfl) dX10_flows_172 (by rw [ef_96]; rfl) ?_
          subst ef_96
          subst ex_95
          subst ex_94
          subst ex_93
          subst ex_92
          subst ex_90
          subst ef_89
          subst ex_88
          subst ex_87
          subst ex_86
          subst ef_85
          subst ex_83
          subst ef_82
          subst ex_80
          subst ex_14
          subst e_13
          subst ex_9
          subst ex_8
          subst ex_7
          subst e_6
          subst ex_2
          subst ex_1
          exact sw_vret (pc := 173) F T ((vp_updL (vp_updL (vp_updL (vp_updL S 41 1) 40 0) 42 (((vp_updL (vp_updL S 41 1) 40 0) 42) + ((vp_updL (vp_updL S 41 1) 40 0) 40))) 43 (((vp_updL (vp_updL (vp_updL S 41 1) 40 0) 42 (((vp_updL (vp_updL S 41 1) 40 0) 42) + ((vp_updL (vp_updL S 41 1) 40 0) 40))) 43) + ((10000 * ((vp_updL (vp_updL (vp_updL S 41 1) 40 0) 42 (((vp_updL (vp_updL S 41 1) 40 0) 42) + ((vp_updL (vp_updL S 41 1) 40 0) 40))) 40)) / (f_X10_densityAt_r S (S 20) (S 21)))))) (by unfold f_X10_flows_o1; rw [if_pos c_15, if_pos c_81, if_neg c_84, if_neg c_91]) rfl dX10_flows_173
        · skip
          refine sw_lconst (pc := 154) (v := 0) F dX10_flows_154 rfl ?_
          refine sw_goto (pc := 155) (tgt := 171) F dX10_flows_155 (by decide) ?_
          refine sw_ladd (pc := 171) F dX10_flows_171 ?_
          refine sw_topl (fun x_97 ex_97 => ?_)
          obtain ⟨f_98, ef_98⟩ : ∃ y : Nat → Int64, y = vp_updL f_89 43 x_97 := ⟨_, rfl⟩
          refine sw_last (pc := 172) (ws' := [(h0, .inr (10, [.ref b0, .ref b1, .int np, .int th, .long hh])), (b0, .inl (G.2.1.2, 344, .inr (.inl f_98))), (b1, .inl (G.2.1.2, 1032, .inr (.inl P)))]) F 1 rfl (sw_in rfl) dX10_flows_172 (by rw [ef_98]; rfl) ?_
          subst ef_98
          subst ex_97
          subst ex_90
          subst ef_89
          subst ex_88
          subst ex_87
          subst ex_86
          subst ef_85
          subst ex_83
          subst ef_82
          subst ex_80
          subst ex_14
          subst e_13
          subst ex_9
          subst ex_8
          subst ex_7
          subst e_6
          subst ex_2
          subst ex_1
          exact sw_vret (pc := 173) F T ((vp_updL (vp_updL (vp_updL (vp_updL S 41 1) 40 0) 42 (((vp_updL (vp_updL S 41 1) 40 0) 42) + ((vp_updL (vp_updL S 41 1) 40 0) 40))) 43 (((vp_updL (vp_updL (vp_updL S 41 1) 40 0) 42 (((vp_updL (vp_updL S 41 1) 40 0) 42) + ((vp_updL (vp_updL S 41 1) 40 0) 40))) 43) + 0))) (by unfold f_X10_flows_o1; rw [if_pos c_15, if_pos c_81, if_neg c_84, if_pos c_91]) rfl dX10_flows_173
      · skip
        refine sw_lload_n (pc := 117) F dX10_flows_117 rfl 0 rfl ?_
        refine sw_goto (pc := 118) (tgt := 122) F dX10_flows_118 (by decide) ?_
        obtain ⟨f_99, ef_99⟩ : ∃ y : Nat → Int64, y = vp_updL f_82 40 r_10 := ⟨_, rfl⟩
        refine sw_last (pc := 122) (ws' := [(h0, .inr (10, [.ref b0, .ref b1, .int np, .int th, .long hh])), (b0, .inl (G.2.1.2, 344, .inr (.inl f_99))), (b1, .inl (G.2.1.2, 1032, .inr (.inl P)))]) F 1 rfl (sw_in rfl) dX10_flows_122 (by rw [ef_99]; rfl) ?_
        refine sw_aload_n (pc := 123) F dX10_flows_123 rfl 2 rfl ?_
        refine sw_get (pc := 124) (Cn := RX10) (T := TX10) (N := 5) (ci := 10) (v := .ref b0) F in10 0 rfl rfl 0 (by decide) rfl (List.mem_of_getElem? (i := 1) rfl) rfl dX10_flows_124 ?_
        refine sw_bipush (pc := 127) (v := 42) F dX10_flows_127 rfl ?_
        refine sw_dup2 (pc := 129) F dX10_flows_129 rfl rfl ?_
        refine sw_lald (pc := 130) F 1 rfl (sw_in rfl) dX10_flows_130 ?_
        refine sw_naml (e := f_99 42) rfl (fun x_100 ex_100 => ?_)
        refine sw_aload_n (pc := 131) F dX10_flows_131 rfl 2 rfl ?_
        refine sw_get (pc := 132) (Cn := RX10) (T := TX10) (N := 5) (ci := 10) (v := .ref b0) F in10 0 rfl rfl 0 (by decide) rfl (List.mem_of_getElem? (i := 1) rfl) rfl dX10_flows_132 ?_
        refine sw_bipush (pc := 135) (v := 40) F dX10_flows_135 rfl ?_
        refine sw_lald (pc := 137) F 1 rfl (sw_in rfl) dX10_flows_137 ?_
        refine sw_naml (e := f_99 40) rfl (fun x_101 ex_101 => ?_)
        refine sw_ladd (pc := 138) F dX10_flows_138 ?_
        refine sw_topl (fun x_102 ex_102 => ?_)
        obtain ⟨f_103, ef_103⟩ : ∃ y : Nat → Int64, y = vp_updL f_99 42 x_102 := ⟨_, rfl⟩
        refine sw_last (pc := 139) (ws' := [(h0, .inr (10, [.ref b0, .ref b1, .int np, .int th, .long hh])), (b0, .inl (G.2.1.2, 344, .inr (.inl f_103))), (b1, .inl (G.2.1.2, 1032, .inr (.inl P)))]) F 1 rfl (sw_in rfl) dX10_flows_139 (by rw [ef_103]; rfl) ?_
        refine sw_aload_n (pc := 140) F dX10_flows_140 rfl 2 rfl ?_
        refine sw_get (pc := 141) (Cn := RX10) (T := TX10) (N := 5) (ci := 10) (v := .ref b0) F in10 0 rfl rfl 0 (by decide) rfl (List.mem_of_getElem? (i := 1) rfl) rfl dX10_flows_141 ?_
        refine sw_bipush (pc := 144) (v := 43) F dX10_flows_144 rfl ?_
        refine sw_dup2 (pc := 146) F dX10_flows_146 rfl rfl ?_
        refine sw_lald (pc := 147) F 1 rfl (sw_in rfl) dX10_flows_147 ?_
        refine sw_naml (e := f_103 43) rfl (fun x_104 ex_104 => ?_)
        refine sw_lload_n (pc := 148) F dX10_flows_148 rfl 1 rfl ?_
        refine sw_lconst (pc := 149) (v := 0) F dX10_flows_149 rfl ?_
        refine sw_lcmp_ne (pc := 150) (tgt := 158) F dX10_flows_150 dX10_flows_151 (by decide) (fun c_105 => ?_) (fun c_105 => ?_)
        · skip
          refine sw_ldc2 (pc := 158) (v := 10000) F (List.mem_of_getElem? (i := 2) rfl) dX10_flows_158 ?_
          refine sw_aload_n (pc := 161) F dX10_flows_161 rfl 2 rfl ?_
          refine sw_get (pc := 162) (Cn := RX10) (T := TX10) (N := 5) (ci := 10) (v := .ref b0) F in10 0 rfl rfl 0 (by decide) rfl (List.mem_of_getElem? (i := 1) rfl) rfl dX10_flows_162 ?_
          refine sw_bipush (pc := 165) (v := 40) F dX10_flows_165 rfl ?_
          refine sw_lald (pc := 167) F 1 rfl (sw_in rfl) dX10_flows_167 ?_
          refine sw_naml (e := f_103 40) rfl (fun x_106 ex_106 => ?_)
          refine sw_lmul (pc := 168) F dX10_flows_168 ?_
          refine sw_topl (fun x_107 ex_107 => ?_)
          refine sw_lload_n (pc := 169) F dX10_flows_169 rfl 1 rfl ?_
          refine sw_ldiv (pc := 170) F dX10_flows_170 (by assumption) ?_
          refine sw_topl (fun x_108 ex_108 => ?_)
          refine sw_ladd (pc := 171) F dX10_flows_171 ?_
          refine sw_topl (fun x_109 ex_109 => ?_)
          obtain ⟨f_110, ef_110⟩ : ∃ y : Nat → Int64, y = vp_updL f_103 43 x_109 := ⟨_, rfl⟩
          refine sw_last (pc := 172) (ws' := [(h0, .inr (10, [.ref b0, .ref b1, .int np, .int th, .long hh])), (b0, .inl (G.2.1.2, 344, .inr (.inl f_110))), (b1, .inl (G.2.1.2, 1032, .inr (.inl P)))]) F 1 rfl (sw_in rfl) dX10_flows_172 (by rw [ef_110]; rfl) ?_
          subst ef_110
          subst ex_109
          subst ex_108
          subst ex_107
          subst ex_106
          subst ex_104
          subst ef_103
          subst ex_102
          subst ex_101
          subst ex_100
          subst ef_99
          subst ex_83
          subst ef_82
          subst ex_80
          subst ex_14
          subst e_13
          subst ex_9
          subst ex_8
          subst ex_7
          subst e_6
          subst ex_2
          subst ex_1
          exact sw_vret (pc := 173) F T ((vp_updL (vp_updL (vp_updL (vp_updL S 41 1) 40 (f_X10_flowBy_r S (S 39) (S 20) (S 21))) 42 (((vp_updL (vp_updL S 41 1) 40 (f_X10_flowBy_r S (S 39) (S 20) (S 21))) 42) + ((vp_updL (vp_updL S 41 1) 40 (f_X10_flowBy_r S (S 39) (S 20) (S 21))) 40))) 43 (((vp_updL (vp_updL (vp_updL S 41 1) 40 (f_X10_flowBy_r S (S 39) (S 20) (S 21))) 42 (((vp_updL (vp_updL S 41 1) 40 (f_X10_flowBy_r S (S 39) (S 20) (S 21))) 42) + ((vp_updL (vp_updL S 41 1) 40 (f_X10_flowBy_r S (S 39) (S 20) (S 21))) 40))) 43) + ((10000 * ((vp_updL (vp_updL (vp_updL S 41 1) 40 (f_X10_flowBy_r S (S 39) (S 20) (S 21))) 42 (((vp_updL (vp_updL S 41 1) 40 (f_X10_flowBy_r S (S 39) (S 20) (S 21))) 42) + ((vp_updL (vp_updL S 41 1) 40 (f_X10_flowBy_r S (S 39) (S 20) (S 21))) 40))) 40)) / (f_X10_densityAt_r S (S 20) (S 21)))))) (by unfold f_X10_flows_o1; rw [if_pos c_15, if_pos c_81, if_pos c_84, if_neg c_105]) rfl dX10_flows_173
        · skip
          refine sw_lconst (pc := 154) (v := 0) F dX10_flows_154 rfl ?_
          refine sw_goto (pc := 155) (tgt := 171) F dX10_flows_155 (by decide) ?_
          refine sw_ladd (pc := 171) F dX10_flows_171 ?_
          refine sw_topl (fun x_111 ex_111 => ?_)
          obtain ⟨f_112, ef_112⟩ : ∃ y : Nat → Int64, y = vp_updL f_103 43 x_111 := ⟨_, rfl⟩
          refine sw_last (pc := 172) (ws' := [(h0, .inr (10, [.ref b0, .ref b1, .int np, .int th, .long hh])), (b0, .inl (G.2.1.2, 344, .inr (.inl f_112))), (b1, .inl (G.2.1.2, 1032, .inr (.inl P)))]) F 1 rfl (sw_in rfl) dX10_flows_172 (by rw [ef_112]; rfl) ?_
          subst ef_112
          subst ex_111
          subst ex_104
          subst ef_103
          subst ex_102
          subst ex_101
          subst ex_100
          subst ef_99
          subst ex_83
          subst ef_82
          subst ex_80
          subst ex_14
          subst e_13
          subst ex_9
          subst ex_8
          subst ex_7
          subst e_6
          subst ex_2
          subst ex_1
          exact sw_vret (pc := 173) F T ((vp_updL (vp_updL (vp_updL (vp_updL S 41 1) 40 (f_X10_flowBy_r S (S 39) (S 20) (S 21))) 42 (((vp_updL (vp_updL S 41 1) 40 (f_X10_flowBy_r S (S 39) (S 20) (S 21))) 42) + ((vp_updL (vp_updL S 41 1) 40 (f_X10_flowBy_r S (S 39) (S 20) (S 21))) 40))) 43 (((vp_updL (vp_updL (vp_updL S 41 1) 40 (f_X10_flowBy_r S (S 39) (S 20) (S 21))) 42 (((vp_updL (vp_updL S 41 1) 40 (f_X10_flowBy_r S (S 39) (S 20) (S 21))) 42) + ((vp_updL (vp_updL S 41 1) 40 (f_X10_flowBy_r S (S 39) (S 20) (S 21))) 40))) 43) + 0))) (by unfold f_X10_flows_o1; rw [if_pos c_15, if_pos c_81, if_pos c_84, if_pos c_105]) rfl dX10_flows_173
    · skip
      refine sw_lconst (pc := 74) (v := 0) F dX10_flows_74 rfl ?_
      refine sw_goto (pc := 75) (tgt := 98) F dX10_flows_75 (by decide) ?_
      obtain ⟨f_113, ef_113⟩ : ∃ y : Nat → Int64, y = vp_updL S 41 0 := ⟨_, rfl⟩
      refine sw_last (pc := 98) (ws' := [(h0, .inr (10, [.ref b0, .ref b1, .int np, .int th, .long hh])), (b0, .inl (G.2.1.2, 344, .inr (.inl f_113))), (b1, .inl (G.2.1.2, 1032, .inr (.inl P)))]) F 1 rfl (sw_in rfl) dX10_flows_98 (by rw [ef_113]; rfl) ?_
      refine sw_aload_n (pc := 99) F dX10_flows_99 rfl 2 rfl ?_
      refine sw_get (pc := 100) (Cn := RX10) (T := TX10) (N := 5) (ci := 10) (v := .ref b0) F in10 0 rfl rfl 0 (by decide) rfl (List.mem_of_getElem? (i := 1) rfl) rfl dX10_flows_100 ?_
      refine sw_bipush (pc := 103) (v := 40) F dX10_flows_103 rfl ?_
      refine sw_aload_n (pc := 105) F dX10_flows_105 rfl 2 rfl ?_
      refine sw_get (pc := 106) (Cn := RX10) (T := TX10) (N := 5) (ci := 10) (v := .ref b0) F in10 0 rfl rfl 0 (by decide) rfl (List.mem_of_getElem? (i := 1) rfl) rfl dX10_flows_106 ?_
      refine sw_bipush (pc := 109) (v := 41) F dX10_flows_109 rfl ?_
      refine sw_lald (pc := 111) F 1 rfl (sw_in rfl) dX10_flows_111 ?_
      refine sw_naml (e := f_113 41) rfl (fun x_114 ex_114 => ?_)
      refine sw_lconst (pc := 112) (v := 1) F dX10_flows_112 rfl ?_
      refine sw_lcmp_ne (pc := 113) (tgt := 121) F dX10_flows_113 dX10_flows_114 (by decide) (fun c_115 => ?_) (fun c_115 => ?_)
      · skip
        refine sw_lconst (pc := 121) (v := 0) F dX10_flows_121 rfl ?_
        obtain ⟨f_116, ef_116⟩ : ∃ y : Nat → Int64, y = vp_updL f_113 40 0 := ⟨_, rfl⟩
        refine sw_last (pc := 122) (ws' := [(h0, .inr (10, [.ref b0, .ref b1, .int np, .int th, .long hh])), (b0, .inl (G.2.1.2, 344, .inr (.inl f_116))), (b1, .inl (G.2.1.2, 1032, .inr (.inl P)))]) F 1 rfl (sw_in rfl) dX10_flows_122 (by rw [ef_116]; rfl) ?_
        refine sw_aload_n (pc := 123) F dX10_flows_123 rfl 2 rfl ?_
        refine sw_get (pc := 124) (Cn := RX10) (T := TX10) (N := 5) (ci := 10) (v := .ref b0) F in10 0 rfl rfl 0 (by decide) rfl (List.mem_of_getElem? (i := 1) rfl) rfl dX10_flows_124 ?_
        refine sw_bipush (pc := 127) (v := 42) F dX10_flows_127 rfl ?_
        refine sw_dup2 (pc := 129) F dX10_flows_129 rfl rfl ?_
        refine sw_lald (pc := 130) F 1 rfl (sw_in rfl) dX10_flows_130 ?_
        refine sw_naml (e := f_116 42) rfl (fun x_117 ex_117 => ?_)
        refine sw_aload_n (pc := 131) F dX10_flows_131 rfl 2 rfl ?_
        refine sw_get (pc := 132) (Cn := RX10) (T := TX10) (N := 5) (ci := 10) (v := .ref b0) F in10 0 rfl rfl 0 (by decide) rfl (List.mem_of_getElem? (i := 1) rfl) rfl dX10_flows_132 ?_
        refine sw_bipush (pc := 135) (v := 40) F dX10_flows_135 rfl ?_
        refine sw_lald (pc := 137) F 1 rfl (sw_in rfl) dX10_flows_137 ?_
        refine sw_naml (e := f_116 40) rfl (fun x_118 ex_118 => ?_)
        refine sw_ladd (pc := 138) F dX10_flows_138 ?_
        refine sw_topl (fun x_119 ex_119 => ?_)
        obtain ⟨f_120, ef_120⟩ : ∃ y : Nat → Int64, y = vp_updL f_116 42 x_119 := ⟨_, rfl⟩
        refine sw_last (pc := 139) (ws' := [(h0, .inr (10, [.ref b0, .ref b1, .int np, .int th, .long hh])), (b0, .inl (G.2.1.2, 344, .inr (.inl f_120))), (b1, .inl (G.2.1.2, 1032, .inr (.inl P)))]) F 1 rfl (sw_in rfl) dX10_flows_139 (by rw [ef_120]; rfl) ?_
        refine sw_aload_n (pc := 140) F dX10_flows_140 rfl 2 rfl ?_
        refine sw_get (pc := 141) (Cn := RX10) (T := TX10) (N := 5) (ci := 10) (v := .ref b0) F in10 0 rfl rfl 0 (by decide) rfl (List.mem_of_getElem? (i := 1) rfl) rfl dX10_flows_141 ?_
        refine sw_bipush (pc := 144) (v := 43) F dX10_flows_144 rfl ?_
        refine sw_dup2 (pc := 146) F dX10_flows_146 rfl rfl ?_
        refine sw_lald (pc := 147) F 1 rfl (sw_in rfl) dX10_flows_147 ?_
        refine sw_naml (e := f_120 43) rfl (fun x_121 ex_121 => ?_)
        refine sw_lload_n (pc := 148) F dX10_flows_148 rfl 1 rfl ?_
        refine sw_lconst (pc := 149) (v := 0) F dX10_flows_149 rfl ?_
        refine sw_lcmp_ne (pc := 150) (tgt := 158) F dX10_flows_150 dX10_flows_151 (by decide) (fun c_122 => ?_) (fun c_122 => ?_)
        · skip
          refine sw_ldc2 (pc := 158) (v := 10000) F (List.mem_of_getElem? (i := 2) rfl) dX10_flows_158 ?_
          refine sw_aload_n (pc := 161) F dX10_flows_161 rfl 2 rfl ?_
          refine sw_get (pc := 162) (Cn := RX10) (T := TX10) (N := 5) (ci := 10) (v := .ref b0) F in10 0 rfl rfl 0 (by decide) rfl (List.mem_of_getElem? (i := 1) rfl) rfl dX10_flows_162 ?_
          refine sw_bipush (pc := 165) (v := 40) F dX10_flows_165 rfl ?_
          refine sw_lald (pc := 167) F 1 rfl (sw_in rfl) dX10_flows_167 ?_
          refine sw_naml (e := f_120 40) rfl (fun x_123 ex_123 => ?_)
          refine sw_lmul (pc := 168) F dX10_flows_168 ?_
          refine sw_topl (fun x_124 ex_124 => ?_)
          refine sw_lload_n (pc := 169) F dX10_flows_169 rfl 1 rfl ?_
          refine sw_ldiv (pc := 170) F dX10_flows_170 (by assumption) ?_
          refine sw_topl (fun x_125 ex_125 => ?_)
          refine sw_ladd (pc := 171) F dX10_flows_171 ?_
          refine sw_topl (fun x_126 ex_126 => ?_)
          obtain ⟨f_127, ef_127⟩ : ∃ y : Nat → Int64, y = vp_updL f_120 43 x_126 := ⟨_, rfl⟩
          refine sw_last (pc := 172) (ws' := [(h0, .inr (10, [.ref b0, .ref b1, .int np, .int th, .long hh])), (b0, .inl (G.2.1.2, 344, .inr (.inl f_127))), (b1, .inl (G.2.1.2, 1032, .inr (.inl P)))]) F 1 rfl (sw_in rfl) dX10_flows_172 (by rw [ef_127]; rfl) ?_
          subst ef_127
          subst ex_126
          subst ex_125
          subst ex_124
          subst ex_123
          subst ex_121
          subst ef_120
          subst ex_119
          subst ex_118
          subst ex_117
          subst ef_116
          subst ex_114
          subst ef_113
          subst ex_80
          subst ex_14
          subst e_13
          subst ex_9
          subst ex_8
          subst ex_7
          subst e_6
          subst ex_2
          subst ex_1
          exact sw_vret (pc := 173) F T ((vp_updL (vp_updL (vp_updL (vp_updL S 41 0) 40 0) 42 (((vp_updL (vp_updL S 41 0) 40 0) 42) + ((vp_updL (vp_updL S 41 0) 40 0) 40))) 43 (((vp_updL (vp_updL (vp_updL S 41 0) 40 0) 42 (((vp_updL (vp_updL S 41 0) 40 0) 42) + ((vp_updL (vp_updL S 41 0) 40 0) 40))) 43) + ((10000 * ((vp_updL (vp_updL (vp_updL S 41 0) 40 0) 42 (((vp_updL (vp_updL S 41 0) 40 0) 42) + ((vp_updL (vp_updL S 41 0) 40 0) 40))) 40)) / (f_X10_densityAt_r S (S 20) (S 21)))))) (by unfold f_X10_flows_o1; rw [if_pos c_15, if_neg c_81, if_neg c_115, if_neg c_122]) rfl dX10_flows_173
        · skip
          refine sw_lconst (pc := 154) (v := 0) F dX10_flows_154 rfl ?_
          refine sw_goto (pc := 155) (tgt := 171) F dX10_flows_155 (by decide) ?_
          refine sw_ladd (pc := 171) F dX10_flows_171 ?_
          refine sw_topl (fun x_128 ex_128 => ?_)
          obtain ⟨f_129, ef_129⟩ : ∃ y : Nat → Int64, y = vp_updL f_120 43 x_128 := ⟨_, rfl⟩
          refine sw_last (pc := 172) (ws' := [(h0, .inr (10, [.ref b0, .ref b1, .int np, .int th, .long hh])), (b0, .inl (G.2.1.2, 344, .inr (.inl f_129))), (b1, .inl (G.2.1.2, 1032, .inr (.inl P)))]) F 1 rfl (sw_in rfl) dX10_flows_172 (by rw [ef_129]; rfl) ?_
          subst ef_129
          subst ex_128
          subst ex_121
          subst ef_120
          subst ex_119
          subst ex_118
          subst ex_117
          subst ef_116
          subst ex_114
          subst ef_113
          subst ex_80
          subst ex_14
          subst e_13
          subst ex_9
          subst ex_8
          subst ex_7
          subst e_6
          subst ex_2
          subst ex_1
          exact sw_vret (pc := 173) F T ((vp_updL (vp_updL (vp_updL (vp_updL S 41 0) 40 0) 42 (((vp_updL (vp_updL S 41 0) 40 0) 42) + ((vp_updL (vp_updL S 41 0) 40 0) 40))) 43 (((vp_updL (vp_updL (vp_updL S 41 0) 40 0) 42 (((vp_updL (vp_updL S 41 0) 40 0) 42) + ((vp_updL (vp_updL S 41 0) 40 0) 40))) 43) + 0))) (by unfold f_X10_flows_o1; rw [if_pos c_15, if_neg c_81, if_neg c_115, if_pos c_122]) rfl dX10_flows_173
      · skip
        refine sw_lload_n (pc := 117) F dX10_flows_117 rfl 0 rfl ?_
        refine sw_goto (pc := 118) (tgt := 122) F dX10_flows_118 (by decide) ?_
        obtain ⟨f_130, ef_130⟩ : ∃ y : Nat → Int64, y = vp_updL f_113 40 r_10 := ⟨_, rfl⟩
        refine sw_last (pc := 122) (ws' := [(h0, .inr (10, [.ref b0, .ref b1, .int np, .int th, .long hh])), (b0, .inl (G.2.1.2, 344, .inr (.inl f_130))), (b1, .inl (G.2.1.2, 1032, .inr (.inl P)))]) F 1 rfl (sw_in rfl) dX10_flows_122 (by rw [ef_130]; rfl) ?_
        refine sw_aload_n (pc := 123) F dX10_flows_123 rfl 2 rfl ?_
        refine sw_get (pc := 124) (Cn := RX10) (T := TX10) (N := 5) (ci := 10) (v := .ref b0) F in10 0 rfl rfl 0 (by decide) rfl (List.mem_of_getElem? (i := 1) rfl) rfl dX10_flows_124 ?_
        refine sw_bipush (pc := 127) (v := 42) F dX10_flows_127 rfl ?_
        refine sw_dup2 (pc := 129) F dX10_flows_129 rfl rfl ?_
        refine sw_lald (pc := 130) F 1 rfl (sw_in rfl) dX10_flows_130 ?_
        refine sw_naml (e := f_130 42) rfl (fun x_131 ex_131 => ?_)
        refine sw_aload_n (pc := 131) F dX10_flows_131 rfl 2 rfl ?_
        refine sw_get (pc := 132) (Cn := RX10) (T := TX10) (N := 5) (ci := 10) (v := .ref b0) F in10 0 rfl rfl 0 (by decide) rfl (List.mem_of_getElem? (i := 1) rfl) rfl dX10_flows_132 ?_
        refine sw_bipush (pc := 135) (v := 40) F dX10_flows_135 rfl ?_
        refine sw_lald (pc := 137) F 1 rfl (sw_in rfl) dX10_flows_137 ?_
        refine sw_naml (e := f_130 40) rfl (fun x_132 ex_132 => ?_)
        refine sw_ladd (pc := 138) F dX10_flows_138 ?_
        refine sw_topl (fun x_133 ex_133 => ?_)
        obtain ⟨f_134, ef_134⟩ : ∃ y : Nat → Int64, y = vp_updL f_130 42 x_133 := ⟨_, rfl⟩
        refine sw_last (pc := 139) (ws' := [(h0, .inr (10, [.ref b0, .ref b1, .int np, .int th, .long hh])), (b0, .inl (G.2.1.2, 344, .inr (.inl f_134))), (b1, .inl (G.2.1.2, 1032, .inr (.inl P)))]) F 1 rfl (sw_in rfl) dX10_flows_139 (by rw [ef_134]; rfl) ?_
        refine sw_aload_n (pc := 140) F dX10_flows_140 rfl 2 rfl ?_
        refine sw_get (pc := 141) (Cn := RX10) (T := TX10) (N := 5) (ci := 10) (v := .ref b0) F in10 0 rfl rfl 0 (by decide) rfl (List.mem_of_getElem? (i := 1) rfl) rfl dX10_flows_141 ?_
        refine sw_bipush (pc := 144) (v := 43) F dX10_flows_144 rfl ?_
        refine sw_dup2 (pc := 146) F dX10_flows_146 rfl rfl ?_
        refine sw_lald (pc := 147) F 1 rfl (sw_in rfl) dX10_flows_147 ?_
        refine sw_naml (e := f_134 43) rfl (fun x_135 ex_135 => ?_)
        refine sw_lload_n (pc := 148) F dX10_flows_148 rfl 1 rfl ?_
        refine sw_lconst (pc := 149) (v := 0) F dX10_flows_149 rfl ?_
        refine sw_lcmp_ne (pc := 150) (tgt := 158) F dX10_flows_150 dX10_flows_151 (by decide) (fun c_136 => ?_) (fun c_136 => ?_)
        · skip
          refine sw_ldc2 (pc := 158) (v := 10000) F (List.mem_of_getElem? (i := 2) rfl) dX10_flows_158 ?_
          refine sw_aload_n (pc := 161) F dX10_flows_161 rfl 2 rfl ?_
          refine sw_get (pc := 162) (Cn := RX10) (T := TX10) (N := 5) (ci := 10) (v := .ref b0) F in10 0 rfl rfl 0 (by decide) rfl (List.mem_of_getElem? (i := 1) rfl) rfl dX10_flows_162 ?_
          refine sw_bipush (pc := 165) (v := 40) F dX10_flows_165 rfl ?_
          refine sw_lald (pc := 167) F 1 rfl (sw_in rfl) dX10_flows_167 ?_
          refine sw_naml (e := f_134 40) rfl (fun x_137 ex_137 => ?_)
          refine sw_lmul (pc := 168) F dX10_flows_168 ?_
          refine sw_topl (fun x_138 ex_138 => ?_)
          refine sw_lload_n (pc := 169) F dX10_flows_169 rfl 1 rfl ?_
          refine sw_ldiv (pc := 170) F dX10_flows_170 (by assumption) ?_
          refine sw_topl (fun x_139 ex_139 => ?_)
          refine sw_ladd (pc := 171) F dX10_flows_171 ?_
          refine sw_topl (fun x_140 ex_140 => ?_)
          obtain ⟨f_141, ef_141⟩ : ∃ y : Nat → Int64, y = vp_updL f_134 43 x_140 := ⟨_, rfl⟩
          refine sw_last (pc := 172) (ws' := [(h0, .inr (10, [.ref b0, .ref b1, .int np, .int th, .long hh])), (b0, .inl (G.2.1.2, 344, .inr (.inl f_141))), (b1, .inl (G.2.1.2, 1032, .inr (.inl P)))]) F 1 rfl (sw_in rfl) dX10_flows_172 (by rw [ef_141]; rfl) ?_
          subst ef_141
          subst ex_140
          subst ex_139
          subst ex_138
          subst ex_137
          subst ex_135
          subst ef_134
          subst ex_133
          subst ex_132
          subst ex_131
          subst ef_130
          subst ex_114
          subst ef_113
          subst ex_80
          subst ex_14
          subst e_13
          subst ex_9
          subst ex_8
          subst ex_7
          subst e_6
          subst ex_2
          subst ex_1
          exact sw_vret (pc := 173) F T ((vp_updL (vp_updL (vp_updL (vp_updL S 41 0) 40 (f_X10_flowBy_r S (S 39) (S 20) (S 21))) 42 (((vp_updL (vp_updL S 41 0) 40 (f_X10_flowBy_r S (S 39) (S 20) (S 21))) 42) + ((vp_updL (vp_updL S 41 0) 40 (f_X10_flowBy_r S (S 39) (S 20) (S 21))) 40))) 43 (((vp_updL (vp_updL (vp_updL S 41 0) 40 (f_X10_flowBy_r S (S 39) (S 20) (S 21))) 42 (((vp_updL (vp_updL S 41 0) 40 (f_X10_flowBy_r S (S 39) (S 20) (S 21))) 42) + ((vp_updL (vp_updL S 41 0) 40 (f_X10_flowBy_r S (S 39) (S 20) (S 21))) 40))) 43) + ((10000 * ((vp_updL (vp_updL (vp_updL S 41 0) 40 (f_X10_flowBy_r S (S 39) (S 20) (S 21))) 42 (((vp_updL (vp_updL S 41 0) 40 (f_X10_flowBy_r S (S 39) (S 20) (S 21))) 42) + ((vp_updL (vp_updL S 41 0) 40 (f_X10_flowBy_r S (S 39) (S 20) (S 21))) 40))) 40)) / (f_X10_densityAt_r S (S 20) (S 21)))))) (by unfold f_X10_flows_o1; rw [if_pos c_15, if_neg c_81, if_pos c_115, if_neg c_136]) rfl dX10_flows_173
        · skip
          refine sw_lconst (pc := 154) (v := 0) F dX10_flows_154 rfl ?_
          refine sw_goto (pc := 155) (tgt := 171) F dX10_flows_155 (by decide) ?_
          refine sw_ladd (pc := 171) F dX10_flows_171 ?_
          refine sw_topl (fun x_142 ex_142 => ?_)
          obtain ⟨f_143, ef_143⟩ : ∃ y : Nat → Int64, y = vp_updL f_134 43 x_142 := ⟨_, rfl⟩
          refine sw_last (pc := 172) (ws' := [(h0, .inr (10, [.ref b0, .ref b1, .int np, .int th, .long hh])), (b0, .inl (G.2.1.2, 344, .inr (.inl f_143))), (b1, .inl (G.2.1.2, 1032, .inr (.inl P)))]) F 1 rfl (sw_in rfl) dX10_flows_172 (by rw [ef_143]; rfl) ?_
          subst ef_143
          subst ex_142
          subst ex_135
          subst ef_134
          subst ex_133
          subst ex_132
          subst ex_131
          subst ef_130
          subst ex_114
          subst ef_113
          subst ex_80
          subst ex_14
          subst e_13
          subst ex_9
          subst ex_8
          subst ex_7
          subst e_6
          subst ex_2
          subst ex_1
          exact sw_vret (pc := 173) F T ((vp_updL (vp_updL (vp_updL (vp_updL S 41 0) 40 (f_X10_flowBy_r S (S 39) (S 20) (S 21))) 42 (((vp_updL (vp_updL S 41 0) 40 (f_X10_flowBy_r S (S 39) (S 20) (S 21))) 42) + ((vp_updL (vp_updL S 41 0) 40 (f_X10_flowBy_r S (S 39) (S 20) (S 21))) 40))) 43 (((vp_updL (vp_updL (vp_updL S 41 0) 40 (f_X10_flowBy_r S (S 39) (S 20) (S 21))) 42 (((vp_updL (vp_updL S 41 0) 40 (f_X10_flowBy_r S (S 39) (S 20) (S 21))) 42) + ((vp_updL (vp_updL S 41 0) 40 (f_X10_flowBy_r S (S 39) (S 20) (S 21))) 40))) 43) + 0))) (by unfold f_X10_flows_o1; rw [if_pos c_15, if_neg c_81, if_pos c_115, if_pos c_136]) rfl dX10_flows_173
def g_X10_loads_0  (S : Nat → Int64) : Nat → Int64 := if (S 45) = 0 then (S) else (if ((vp_updL S 44 ((S 44) + (S 40))) 44) < ((vp_updL S 44 ((S 44) + (S 40))) 46) then (if ((vp_updL S 44 ((S 44) + (S 40))) 47) < (((vp_updL S 44 ((S 44) + (S 40))) 46) - ((vp_updL S 44 ((S 44) + (S 40))) 44)) then ((vp_updL (vp_updL S 44 ((S 44) + (S 40))) 49 2)) else ((vp_updL (vp_updL S 44 ((S 44) + (S 40))) 49 1))) else ((f_X10_logs_o1 (vp_updL (vp_updL (vp_updL S 44 ((S 44) + (S 40))) 45 0) 49 0) 4 (((vp_updL (vp_updL (vp_updL S 44 ((S 44) + (S 40))) 45 0) 49 0) 44) - ((vp_updL (vp_updL (vp_updL S 44 ((S 44) + (S 40))) 45 0) 49 0) 46)))))
set_option maxHeartbeats 4000000 in
set_option maxRecDepth 100000 in
theorem k_X10_loads (l : Launch) (G : sw_E) (h0 : Nat) (b0 : Nat) (b1 : Nat) (np : Int32) (th : Int32) (hh : Int64) (S : Nat → Int64) (P : Nat → Int64) (hm : mI S) : sw_M l G yX10_loads wsX10_loads ({ frames := 2, cells := 0, slots := 0, locals := 48 } : Room) [.ref h0] [(h0, .inr (10, [.ref b0, .ref b1, .int np, .int th, .long hh])), (b0, .inl (G.2.1.2, 344, .inr (.inl S))), (b1, .inl (G.2.1.2, 1032, .inr (.inl P)))] (sw_QV G (S := Nat → Int64) (fun (u : Nat → Int64) => u = (g_X10_loads_0 S)) (fun u => [(h0, .inr (10, [.ref b0, .ref b1, .int np, .int th, .long hh])), (b0, .inl (G.2.1.2, 344, .inr (.inl u))), (b1, .inl (G.2.1.2, 1032, .inr (.inl P)))])) 0 0 := by
  refine sw_start (cc := cX10_loads) (maxL := 1) (ret := none) (lv := [(0, .ref h0)]) (own := RX10) (nm := "loads") (by decide +kernel) rfl rfl rfl rfl (Nat.le_of_ble_eq_true rfl) (fun C F T => ?_)
  have in10 : ∀ w ∈ u_ws RX10 TX10 5, w ∈ wsX10_loads := fun w h => List.mem_cons_of_mem _ (List.mem_append_right _ (h))
  refine sw_aload_n (pc := 0) F dX10_loads_0 rfl 0 rfl ?_
  refine sw_get (pc := 1) (Cn := RX10) (T := TX10) (N := 5) (ci := 10) (v := .ref b0) F in10 0 rfl rfl 0 (by decide) rfl (List.mem_of_getElem? (i := 1) rfl) rfl dX10_loads_1 ?_
  refine sw_bipush (pc := 4) (v := 45) F dX10_loads_4 rfl ?_
  refine sw_lald (pc := 6) F 1 rfl (sw_in rfl) dX10_loads_6 ?_
  refine sw_naml (e := S 45) rfl (fun x_1 ex_1 => ?_)
  refine sw_lconst (pc := 7) (v := 0) F dX10_loads_7 rfl ?_
  refine sw_lcmp_ne (pc := 8) (tgt := 13) F dX10_loads_8 dX10_loads_9 (by decide) (fun c_2 => ?_) (fun c_2 => ?_)
  · skip
    refine sw_aload_n (pc := 13) F dX10_loads_13 rfl 0 rfl ?_
    refine sw_get (pc := 14) (Cn := RX10) (T := TX10) (N := 5) (ci := 10) (v := .ref b0) F in10 0 rfl rfl 0 (by decide) rfl (List.mem_of_getElem? (i := 1) rfl) rfl dX10_loads_14 ?_
    refine sw_bipush (pc := 17) (v := 44) F dX10_loads_17 rfl ?_
    refine sw_dup2 (pc := 19) F dX10_loads_19 rfl rfl ?_
    refine sw_lald (pc := 20) F 1 rfl (sw_in rfl) dX10_loads_20 ?_
    refine sw_naml (e := S 44) rfl (fun x_3 ex_3 => ?_)
    refine sw_aload_n (pc := 21) F dX10_loads_21 rfl 0 rfl ?_
    refine sw_get (pc := 22) (Cn := RX10) (T := TX10) (N := 5) (ci := 10) (v := .ref b0) F in10 0 rfl rfl 0 (by decide) rfl (List.mem_of_getElem? (i := 1) rfl) rfl dX10_loads_22 ?_
    refine sw_bipush (pc := 25) (v := 40) F dX10_loads_25 rfl ?_
    refine sw_lald (pc := 27) F 1 rfl (sw_in rfl) dX10_loads_27 ?_
    refine sw_naml (e := S 40) rfl (fun x_4 ex_4 => ?_)
    refine sw_ladd (pc := 28) F dX10_loads_28 ?_
    refine sw_topl (fun x_5 ex_5 => ?_)
    obtain ⟨f_6, ef_6⟩ : ∃ y : Nat → Int64, y = vp_updL S 44 x_5 := ⟨_, rfl⟩
    refine sw_last (pc := 29) (ws' := [(h0, .inr (10, [.ref b0, .ref b1, .int np, .int th, .long hh])), (b0, .inl (G.2.1.2, 344, .inr (.inl f_6))), (b1, .inl (G.2.1.2, 1032, .inr (.inl P)))]) F 1 rfl (sw_in rfl) dX10_loads_29 (by rw [ef_6]; rfl) ?_
    have mf_6 : mI f_6 := by rw [ef_6]; exact mI_u hm (by decide)
    refine sw_aload_n (pc := 30) F dX10_loads_30 rfl 0 rfl ?_
    refine sw_get (pc := 31) (Cn := RX10) (T := TX10) (N := 5) (ci := 10) (v := .ref b0) F in10 0 rfl rfl 0 (by decide) rfl (List.mem_of_getElem? (i := 1) rfl) rfl dX10_loads_31 ?_
    refine sw_bipush (pc := 34) (v := 44) F dX10_loads_34 rfl ?_
    refine sw_lald (pc := 36) F 1 rfl (sw_in rfl) dX10_loads_36 ?_
    refine sw_naml (e := f_6 44) rfl (fun x_7 ex_7 => ?_)
    refine sw_aload_n (pc := 37) F dX10_loads_37 rfl 0 rfl ?_
    refine sw_get (pc := 38) (Cn := RX10) (T := TX10) (N := 5) (ci := 10) (v := .ref b0) F in10 0 rfl rfl 0 (by decide) rfl (List.mem_of_getElem? (i := 1) rfl) rfl dX10_loads_38 ?_
    refine sw_bipush (pc := 41) (v := 46) F dX10_loads_41 rfl ?_
    refine sw_lald (pc := 43) F 1 rfl (sw_in rfl) dX10_loads_43 ?_
    refine sw_naml (e := f_6 46) rfl (fun x_8 ex_8 => ?_)
    refine sw_lcmp_lt (pc := 44) (tgt := 87) F dX10_loads_44 dX10_loads_45 (by decide) (fun c_9 => ?_) (fun c_9 => ?_)
    · skip
      refine sw_aload_n (pc := 87) F dX10_loads_87 rfl 0 rfl ?_
      refine sw_get (pc := 88) (Cn := RX10) (T := TX10) (N := 5) (ci := 10) (v := .ref b0) F in10 0 rfl rfl 0 (by decide) rfl (List.mem_of_getElem? (i := 1) rfl) rfl dX10_loads_88 ?_
      refine sw_bipush (pc := 91) (v := 49) F dX10_loads_91 rfl ?_
      refine sw_aload_n (pc := 93) F dX10_loads_93 rfl 0 rfl ?_
      refine sw_get (pc := 94) (Cn := RX10) (T := TX10) (N := 5) (ci := 10) (v := .ref b0) F in10 0 rfl rfl 0 (by decide) rfl (List.mem_of_getElem? (i := 1) rfl) rfl dX10_loads_94 ?_
      refine sw_bipush (pc := 97) (v := 46) F dX10_loads_97 rfl ?_
      refine sw_lald (pc := 99) F 1 rfl (sw_in rfl) dX10_loads_99 ?_
      refine sw_naml (e := f_6 46) rfl (fun x_10 ex_10 => ?_)
      refine sw_aload_n (pc := 100) F dX10_loads_100 rfl 0 rfl ?_
      refine sw_get (pc := 101) (Cn := RX10) (T := TX10) (N := 5) (ci := 10) (v := .ref b0) F in10 0 rfl rfl 0 (by decide) rfl (List.mem_of_getElem? (i := 1) rfl) rfl dX10_loads_101 ?_
      refine sw_bipush (pc := 104) (v := 44) F dX10_loads_104 rfl ?_
      refine sw_lald (pc := 106) F 1 rfl (sw_in rfl) dX10_loads_106 ?_
      refine sw_naml (e := f_6 44) rfl (fun x_11 ex_11 => ?_)
      refine sw_lsub (pc := 107) F dX10_loads_107 ?_
      refine sw_topl (fun x_12 ex_12 => ?_)
      refine sw_aload_n (pc := 108) F dX10_loads_108 rfl 0 rfl ?_
      refine sw_get (pc := 109) (Cn := RX10) (T := TX10) (N := 5) (ci := 10) (v := .ref b0) F in10 0 rfl rfl 0 (by decide) rfl (List.mem_of_getElem? (i := 1) rfl) rfl dX10_loads_109 ?_
      refine sw_bipush (pc := 112) (v := 47) F dX10_loads_112 rfl ?_
      refine sw_lald (pc := 114) F 1 rfl (sw_in rfl) dX10_loads_114 ?_
      refine sw_naml (e := f_6 47) rfl (fun x_13 ex_13 => ?_)
      refine sw_lcmp_gt (pc := 115) (tgt := 123) F dX10_loads_115 dX10_loads_116 (by decide) (fun c_14 => ?_) (fun c_14 => ?_)
      · skip
        refine sw_ldc2 (pc := 123) (v := 2) F (List.mem_of_getElem? (i := 2) rfl) dX10_loads_123 ?_
        obtain ⟨f_15, ef_15⟩ : ∃ y : Nat → Int64, y = vp_updL f_6 49 2 := ⟨_, rfl⟩
        refine sw_last (pc := 126) (ws' := [(h0, .inr (10, [.ref b0, .ref b1, .int np, .int th, .long hh])), (b0, .inl (G.2.1.2, 344, .inr (.inl f_15))), (b1, .inl (G.2.1.2, 1032, .inr (.inl P)))]) F 1 rfl (sw_in rfl) dX10_loads_126 (by rw [ef_15]; rfl) ?_
        have mf_15 : mI f_15 := by rw [ef_15]; exact mI_u mf_6 (by decide)
        subst ef_15
        subst ex_13
        subst ex_12
        subst ex_11
        subst ex_10
        subst ex_8
        subst ex_7
        subst ef_6
        subst ex_5
        subst ex_4
        subst ex_3
        subst ex_1
        exact sw_vret (pc := 127) F T ((vp_updL (vp_updL S 44 ((S 44) + (S 40))) 49 2)) (by unfold g_X10_loads_0; rw [if_neg c_2, if_pos c_9, if_pos c_14]) rfl dX10_loads_127
      · skip
        refine sw_lconst (pc := 119) (v := 1) F dX10_loads_119 rfl ?_
        refine sw_goto (pc := 120) (tgt := 126) F dX10_loads_120 (by decide) ?_
        obtain ⟨f_16, ef_16⟩ : ∃ y : Nat → Int64, y = vp_updL f_6 49 1 := ⟨_, rfl⟩
        refine sw_last (pc := 126) (ws' := [(h0, .inr (10, [.ref b0, .ref b1, .int np, .int th, .long hh])), (b0, .inl (G.2.1.2, 344, .inr (.inl f_16))), (b1, .inl (G.2.1.2, 1032, .inr (.inl P)))]) F 1 rfl (sw_in rfl) dX10_loads_126 (by rw [ef_16]; rfl) ?_
        have mf_16 : mI f_16 := by rw [ef_16]; exact mI_u mf_6 (by decide)
        subst ef_16
        subst ex_13
        subst ex_12
        subst ex_11
        subst ex_10
        subst ex_8
        subst ex_7
        subst ef_6
        subst ex_5
        subst ex_4
        subst ex_3
        subst ex_1
        exact sw_vret (pc := 127) F T ((vp_updL (vp_updL S 44 ((S 44) + (S 40))) 49 1)) (by unfold g_X10_loads_0; rw [if_neg c_2, if_pos c_9, if_neg c_14]) rfl dX10_loads_127
    · skip
      refine sw_aload_n (pc := 48) F dX10_loads_48 rfl 0 rfl ?_
      refine sw_get (pc := 49) (Cn := RX10) (T := TX10) (N := 5) (ci := 10) (v := .ref b0) F in10 0 rfl rfl 0 (by decide) rfl (List.mem_of_getElem? (i := 1) rfl) rfl dX10_loads_49 ?_
      refine sw_bipush (pc := 52) (v := 45) F dX10_loads_52 rfl ?_
      refine sw_lconst (pc := 54) (v := 0) F dX10_loads_54 rfl ?_
      obtain ⟨f_17, ef_17⟩ : ∃ y : Nat → Int64, y = vp_updL f_6 45 0 := ⟨_, rfl⟩
      refine sw_last (pc := 55) (ws' := [(h0, .inr (10, [.ref b0, .ref b1, .int np, .int th, .long hh])), (b0, .inl (G.2.1.2, 344, .inr (.inl f_17))), (b1, .inl (G.2.1.2, 1032, .inr (.inl P)))]) F 1 rfl (sw_in rfl) dX10_loads_55 (by rw [ef_17]; rfl) ?_
      have mf_17 : mI f_17 := by rw [ef_17]; exact mI_u mf_6 (by decide)
      refine sw_aload_n (pc := 56) F dX10_loads_56 rfl 0 rfl ?_
      refine sw_get (pc := 57) (Cn := RX10) (T := TX10) (N := 5) (ci := 10) (v := .ref b0) F in10 0 rfl rfl 0 (by decide) rfl (List.mem_of_getElem? (i := 1) rfl) rfl dX10_loads_57 ?_
      refine sw_bipush (pc := 60) (v := 49) F dX10_loads_60 rfl ?_
      refine sw_lconst (pc := 62) (v := 0) F dX10_loads_62 rfl ?_
      obtain ⟨f_18, ef_18⟩ : ∃ y : Nat → Int64, y = vp_updL f_17 49 0 := ⟨_, rfl⟩
      refine sw_last (pc := 63) (ws' := [(h0, .inr (10, [.ref b0, .ref b1, .int np, .int th, .long hh])), (b0, .inl (G.2.1.2, 344, .inr (.inl f_18))), (b1, .inl (G.2.1.2, 1032, .inr (.inl P)))]) F 1 rfl (sw_in rfl) dX10_loads_63 (by rw [ef_18]; rfl) ?_
      have mf_18 : mI f_18 := by rw [ef_18]; exact mI_u mf_17 (by decide)
      refine sw_aload_n (pc := 64) F dX10_loads_64 rfl 0 rfl ?_
      refine sw_iconst (pc := 65) (v := 4) F dX10_loads_65 rfl ?_
      refine sw_aload_n (pc := 66) F dX10_loads_66 rfl 0 rfl ?_
      refine sw_get (pc := 67) (Cn := RX10) (T := TX10) (N := 5) (ci := 10) (v := .ref b0) F in10 0 rfl rfl 0 (by decide) rfl (List.mem_of_getElem? (i := 1) rfl) rfl dX10_loads_67 ?_
      refine sw_bipush (pc := 70) (v := 44) F dX10_loads_70 rfl ?_
      refine sw_lald (pc := 72) F 1 rfl (sw_in rfl) dX10_loads_72 ?_
      refine sw_naml (e := f_18 44) rfl (fun x_19 ex_19 => ?_)
      refine sw_aload_n (pc := 73) F dX10_loads_73 rfl 0 rfl ?_
      refine sw_get (pc := 74) (Cn := RX10) (T := TX10) (N := 5) (ci := 10) (v := .ref b0) F in10 0 rfl rfl 0 (by decide) rfl (List.mem_of_getElem? (i := 1) rfl) rfl dX10_loads_74 ?_
      refine sw_bipush (pc := 77) (v := 46) F dX10_loads_77 rfl ?_
      refine sw_lald (pc := 79) F 1 rfl (sw_in rfl) dX10_loads_79 ?_
      refine sw_naml (e := f_18 46) rfl (fun x_20 ex_20 => ?_)
      refine sw_lsub (pc := 80) F dX10_loads_80 ?_
      refine sw_topl (fun x_21 ex_21 => ?_)
      refine sw_callv (pc := 81) (wr := []) (k' := 0) (n' := 0) F (sw_runV (R := ({ frames := 2, cells := 0, slots := 0, locals := 48 } : Room)) (q0 := 0) (na := 2) F T.2.1 T.2.2.1 (k_X10_logs l G h0 b0 b1 np th hh f_18 P 4 x_21 (mf_18).1) [0, 1, 2] rfl (by decide) gX10_loads_X10_logs rfl rfl rfl (by decide +kernel) ⟨Nat.le_of_ble_eq_true rfl, Nat.le_of_ble_eq_true rfl⟩ rfl rfl rfl rfl rfl (Nat.le_of_ble_eq_true rfl) dX10_loads_81 (Nat.le_of_ble_eq_true rfl) (Nat.le_of_ble_eq_true rfl)) [0, 1, 2] [] rfl rfl (by decide) (by decide) rfl rfl (fun u_23 h_24 => ?_)
      obtain ⟨o_25, eu_23⟩ : ∃ z, z = u_23 := ⟨_, rfl⟩; subst eu_23
      have e_26 : o_25 = f_X10_logs_o1 f_18 4 x_21 := h_24
      have mo_25 : mI o_25 := by rw [e_26]; exact mI_l mf_18
      refine sw_eq (ws' := [(h0, .inr (10, [.ref b0, .ref b1, .int np, .int th, .long hh])), (b0, .inl (G.2.1.2, 344, .inr (.inl o_25))), (b1, .inl (G.2.1.2, 1032, .inr (.inl P)))]) (lv' := [(0, .ref h0)]) (st' := []) rfl rfl rfl ?_
      refine sw_goto (pc := 84) (tgt := 127) F dX10_loads_84 (by decide) ?_
      subst e_26
      subst ex_21
      subst ex_20
      subst ex_19
      subst ef_18
      subst ef_17
      subst ex_8
      subst ex_7
      subst ef_6
      subst ex_5
      subst ex_4
      subst ex_3
      subst ex_1
      exact sw_vret (pc := 127) F T ((f_X10_logs_o1 (vp_updL (vp_updL (vp_updL S 44 ((S 44) + (S 40))) 45 0) 49 0) 4 (((vp_updL (vp_updL (vp_updL S 44 ((S 44) + (S 40))) 45 0) 49 0) 44) - ((vp_updL (vp_updL (vp_updL S 44 ((S 44) + (S 40))) 45 0) 49 0) 46)))) (by unfold g_X10_loads_0; rw [if_neg c_2, if_neg c_9]) rfl dX10_loads_127
  · skip
    subst ex_1
    exact sw_vret (pc := 12) F T (S) (by unfold g_X10_loads_0; rw [if_pos c_2]) rfl dX10_loads_12
def g_X10_counts_0  (S : Nat → Int64) : Nat → Int64 := (vp_updL (vp_updL (vp_updL S 50 ((S 50) + (S 40))) 59 (((vp_updL S 50 ((S 50) + (S 40))) 59) + 1)) 52 (((vp_updL (vp_updL S 50 ((S 50) + (S 40))) 59 (((vp_updL S 50 ((S 50) + (S 40))) 59) + 1)) 52) + ((vp_updL (vp_updL S 50 ((S 50) + (S 40))) 59 (((vp_updL S 50 ((S 50) + (S 40))) 59) + 1)) 41)))
def g_X10_counts_1  (S1 : Nat → Int64) : Nat → Int64 := if (f_X10_isFaulty_r S1 0) = 0 then ((vp_updL S1 51 ((S1 51) ||| 0))) else ((vp_updL S1 51 ((S1 51) ||| 1)))
def g_X10_counts_2  (S2 : Nat → Int64) : Nat → Int64 := if (f_X10_isFaulty_r S2 1) = 0 then ((vp_updL S2 51 ((S2 51) ||| 0))) else ((vp_updL S2 51 ((S2 51) ||| 2)))
def g_X10_counts_3  (S3 : Nat → Int64) : Nat → Int64 := if (f_X10_isFaulty_r S3 2) = 0 then ((vp_updL S3 51 ((S3 51) ||| 0))) else ((vp_updL S3 51 ((S3 51) ||| 4)))
def g_X10_counts_4  (S4 : Nat → Int64) : Nat → Int64 := if (f_X10_isFaulty_r S4 3) = 0 then ((vp_updL S4 51 ((S4 51) ||| 0))) else ((vp_updL S4 51 ((S4 51) ||| 8)))
def g_X10_counts_5  (S5 : Nat → Int64) : Nat → Int64 := if (S5 38) ≤ 0 then ((vp_updL S5 51 ((S5 51) ||| 0))) else ((vp_updL S5 51 ((S5 51) ||| 16)))
def g_X10_counts_6  (S6 : Nat → Int64) : Nat → Int64 := if ((vp_updL S6 56 ((S6 56) + (S6 39))) 41) = 1 then ((vp_updL (vp_updL S6 56 ((S6 56) + (S6 39))) 53 (((vp_updL S6 56 ((S6 56) + (S6 39))) 53) + (S6 39)))) else ((vp_updL (vp_updL S6 56 ((S6 56) + (S6 39))) 53 (((vp_updL S6 56 ((S6 56) + (S6 39))) 53) + 0)))
def g_X10_counts_7  (S7 : Nat → Int64) : Nat → Int64 := if ((vp_updL S7 57 ((S7 57) + (S7 20))) 41) = 1 then ((vp_updL (vp_updL S7 57 ((S7 57) + (S7 20))) 54 (((vp_updL S7 57 ((S7 57) + (S7 20))) 54) + (S7 20)))) else ((vp_updL (vp_updL S7 57 ((S7 57) + (S7 20))) 54 (((vp_updL S7 57 ((S7 57) + (S7 20))) 54) + 0)))
def g_X10_counts_8  (S8 : Nat → Int64) : Nat → Int64 := if ((vp_updL S8 58 ((S8 58) + (S8 21))) 41) = 1 then ((vp_updL (vp_updL S8 58 ((S8 58) + (S8 21))) 55 (((vp_updL S8 58 ((S8 58) + (S8 21))) 55) + (S8 21)))) else ((vp_updL (vp_updL S8 58 ((S8 58) + (S8 21))) 55 (((vp_updL S8 58 ((S8 58) + (S8 21))) 55) + 0)))
def g_X10_counts_9  (S9 : Nat → Int64) : Nat → Int64 := S9
set_option maxHeartbeats 4000000 in
set_option maxRecDepth 100000 in
theorem k_X10_counts (l : Launch) (G : sw_E) (h0 : Nat) (b0 : Nat) (b1 : Nat) (np : Int32) (th : Int32) (hh : Int64) (S : Nat → Int64) (P : Nat → Int64)  : sw_M l G yX10_counts wsX10_counts ({ frames := 1, cells := 0, slots := 0, locals := 21 } : Room) [.ref h0] [(h0, .inr (10, [.ref b0, .ref b1, .int np, .int th, .long hh])), (b0, .inl (G.2.1.2, 344, .inr (.inl S))), (b1, .inl (G.2.1.2, 1032, .inr (.inl P)))] (sw_QV G (S := Nat → Int64) (fun (u : Nat → Int64) => u = (g_X10_counts_9 (g_X10_counts_8 (g_X10_counts_7 (g_X10_counts_6 (g_X10_counts_5 (g_X10_counts_4 (g_X10_counts_3 (g_X10_counts_2 (g_X10_counts_1 (g_X10_counts_0 S))))))))))) (fun u => [(h0, .inr (10, [.ref b0, .ref b1, .int np, .int th, .long hh])), (b0, .inl (G.2.1.2, 344, .inr (.inl u))), (b1, .inl (G.2.1.2, 1032, .inr (.inl P)))])) 0 0 := by
  refine sw_start (cc := cX10_counts) (maxL := 4) (ret := none) (lv := [(0, .ref h0)]) (own := RX10) (nm := "counts") (by decide +kernel) rfl rfl rfl rfl (Nat.le_of_ble_eq_true rfl) (fun C F T => ?_)
  have in10 : ∀ w ∈ u_ws RX10 TX10 5, w ∈ wsX10_counts := fun w h => List.mem_cons_of_mem _ (List.mem_append_right _ (h))
  have J9 : ∀ (S9 : Nat → Int64), S9 = (g_X10_counts_8 (g_X10_counts_7 (g_X10_counts_6 (g_X10_counts_5 (g_X10_counts_4 (g_X10_counts_3 (g_X10_counts_2 (g_X10_counts_1 (g_X10_counts_0 S))))))))) → SW G C 0 0 [(h0, .inr (10, [.ref b0, .ref b1, .int np, .int th, .long hh])), (b0, .inl (G.2.1.2, 344, .inr (.inl S9))), (b1, .inl (G.2.1.2, 1032, .inr (.inl P)))] [(1, .int 3), (0, .ref h0)] 114 [] := by
    intro S9 hS9 
    refine sw_iload_n (pc := 114) F dX10_counts_114 rfl 0 rfl ?_
    refine sw_iconst (pc := 115) (v := 3) F dX10_counts_115 rfl ?_
    refine sw_icmp_ge (pc := 116) (tgt := 193) F dX10_counts_116 (by decide) (fun _ => ?_) (fun c => absurd c (by decide))
    exact sw_vret (pc := 193) F T (S9) (by rw [← hS9]; rfl) rfl dX10_counts_193
  have J8 : ∀ (S8 : Nat → Int64), S8 = (g_X10_counts_7 (g_X10_counts_6 (g_X10_counts_5 (g_X10_counts_4 (g_X10_counts_3 (g_X10_counts_2 (g_X10_counts_1 (g_X10_counts_0 S)))))))) → SW G C 0 0 [(h0, .inr (10, [.ref b0, .ref b1, .int np, .int th, .long hh])), (b0, .inl (G.2.1.2, 344, .inr (.inl S8))), (b1, .inl (G.2.1.2, 1032, .inr (.inl P)))] [(1, .int 2), (0, .ref h0)] 114 [] := by
    intro S8 hS8 
    refine sw_iload_n (pc := 114) F dX10_counts_114 rfl 0 rfl ?_
    refine sw_iconst (pc := 115) (v := 3) F dX10_counts_115 rfl ?_
    refine sw_icmp_ge (pc := 116) (tgt := 193) F dX10_counts_116 (by decide) (fun c => absurd c (by decide)) (fun _ => ?_)
    refine sw_iload_n (pc := 119) F dX10_counts_119 rfl 0 rfl ?_
    refine sw_if_ne (pc := 120) (tgt := 133) F dX10_counts_120 (by decide) (fun _ => ?_) (fun c => absurd c (by decide))
    refine sw_aload_n (pc := 133) F dX10_counts_133 rfl 1 rfl ?_
    refine sw_get (pc := 134) (Cn := RX10) (T := TX10) (N := 5) (ci := 10) (v := .ref b0) F in10 0 rfl rfl 0 (by decide) rfl (List.mem_of_getElem? (i := 1) rfl) rfl dX10_counts_134 ?_
    refine sw_bipush (pc := 137) (v := 18) F dX10_counts_137 rfl ?_
    refine sw_iload_n (pc := 139) F dX10_counts_139 rfl 0 rfl ?_
    refine sw_iadd (pc := 140) F dX10_counts_140 ?_
    refine sw_eqt (v := .int 20) (by rfl) ?_
    refine sw_iconst (pc := 141) (v := 1) F dX10_counts_141 rfl ?_
    refine sw_iadd (pc := 142) F dX10_counts_142 ?_
    refine sw_eqt (v := .int 21) (by rfl) ?_
    refine sw_lald (pc := 143) F 1 rfl (sw_in rfl) dX10_counts_143 ?_
    refine sw_naml (e := S8 21) rfl (fun x_81 ex_81 => ?_)
    refine sw_lstore_n (pc := 144) (lv' := [(2, .long x_81), (1, .int 2), (0, .ref h0)]) F T.1 dX10_counts_144 rfl (by decide) rfl ?_
    refine sw_aload_n (pc := 145) F dX10_counts_145 rfl 2 rfl ?_
    refine sw_get (pc := 146) (Cn := RX10) (T := TX10) (N := 5) (ci := 10) (v := .ref b0) F in10 0 rfl rfl 0 (by decide) rfl (List.mem_of_getElem? (i := 1) rfl) rfl dX10_counts_146 ?_
    refine sw_bipush (pc := 149) (v := 56) F dX10_counts_149 rfl ?_
    refine sw_iload_n (pc := 151) F dX10_counts_151 rfl 1 rfl ?_
    refine sw_iadd (pc := 152) F dX10_counts_152 ?_
    refine sw_eqt (v := .int 58) (by rfl) ?_
    refine sw_dup2 (pc := 153) F dX10_counts_153 rfl rfl ?_
    refine sw_lald (pc := 154) F 1 rfl (sw_in rfl) dX10_counts_154 ?_
    refine sw_naml (e := S8 58) rfl (fun x_82 ex_82 => ?_)
    refine sw_lload_n (pc := 155) F dX10_counts_155 rfl 0 rfl ?_
    refine sw_ladd (pc := 156) F dX10_counts_156 ?_
    refine sw_topl (fun x_83 ex_83 => ?_)
    obtain ⟨f_84, ef_84⟩ : ∃ y : Nat → Int64, y = vp_updL S8 58 x_83 := ⟨_, rfl⟩
    refine sw_last (pc := 157) (ws' := [(h0, .inr (10, [.ref b0, .ref b1, .int np, .int th, .long hh])), (b0, .inl (G.2.1.2, 344, .inr (.inl f_84))), (b1, .inl (G.2.1.2, 1032, .inr (.inl P)))]) F 1 rfl (sw_in rfl) dX10_counts_157 (by rw [ef_84]; rfl) ?_
    refine sw_aload_n (pc := 158) F dX10_counts_158 rfl 2 rfl ?_
    refine sw_get (pc := 159) (Cn := RX10) (T := TX10) (N := 5) (ci := 10) (v := .ref b0) F in10 0 rfl rfl 0 (by decide) rfl (List.mem_of_getElem? (i := 1) rfl) rfl dX10_counts_159 ?_
    refine sw_bipush (pc := 162) (v := 53) F dX10_counts_162 rfl ?_
    refine sw_iload_n (pc := 164) F dX10_counts_164 rfl 1 rfl ?_
    refine sw_iadd (pc := 165) F dX10_counts_165 ?_
    refine sw_eqt (v := .int 55) (by rfl) ?_
    refine sw_dup2 (pc := 166) F dX10_counts_166 rfl rfl ?_
    refine sw_lald (pc := 167) F 1 rfl (sw_in rfl) dX10_counts_167 ?_
    refine sw_naml (e := f_84 55) rfl (fun x_85 ex_85 => ?_)
    refine sw_aload_n (pc := 168) F dX10_counts_168 rfl 2 rfl ?_
    refine sw_get (pc := 169) (Cn := RX10) (T := TX10) (N := 5) (ci := 10) (v := .ref b0) F in10 0 rfl rfl 0 (by decide) rfl (List.mem_of_getElem? (i := 1) rfl) rfl dX10_counts_169 ?_
    refine sw_bipush (pc := 172) (v := 41) F dX10_counts_172 rfl ?_
    refine sw_lald (pc := 174) F 1 rfl (sw_in rfl) dX10_counts_174 ?_
    refine sw_naml (e := f_84 41) rfl (fun x_86 ex_86 => ?_)
    refine sw_lconst (pc := 175) (v := 1) F dX10_counts_175 rfl ?_
    refine sw_lcmp_ne (pc := 176) (tgt := 184) F dX10_counts_176 dX10_counts_177 (by decide) (fun c_87 => ?_) (fun c_87 => ?_)
    · skip
      refine sw_lconst (pc := 184) (v := 0) F dX10_counts_184 rfl ?_
      refine sw_ladd (pc := 185) F dX10_counts_185 ?_
      refine sw_topl (fun x_88 ex_88 => ?_)
      obtain ⟨f_89, ef_89⟩ : ∃ y : Nat → Int64, y = vp_updL f_84 55 x_88 := ⟨_, rfl⟩
      refine sw_last (pc := 186) (ws' := [(h0, .inr (10, [.ref b0, .ref b1, .int np, .int th, .long hh])), (b0, .inl (G.2.1.2, 344, .inr (.inl f_89))), (b1, .inl (G.2.1.2, 1032, .inr (.inl P)))]) F 1 rfl (sw_in rfl) dX10_counts_186 (by rw [ef_89]; rfl) ?_
      refine sw_iinc (pc := 187) (v := 3) (lv' := [(1, .int 3), (2, .long x_81), (0, .ref h0)]) F T.1 dX10_counts_187 (q := 1) rfl rfl (by decide) rfl ?_
      refine sw_goto (pc := 190) (tgt := 114) F dX10_counts_190 (by decide) ?_
      refine sw_lvs (is := [0, 2]) (lv' := [(1, .int 3), (0, .ref h0)]) rfl ?_
      subst ef_89
      subst ex_88
      subst ex_86
      subst ex_85
      subst ef_84
      subst ex_83
      subst ex_82
      subst ex_81
      exact J9 _ (by rw [← hS8]; unfold g_X10_counts_8; rw [if_neg c_87]) 
    · skip
      refine sw_lload_n (pc := 180) F dX10_counts_180 rfl 0 rfl ?_
      refine sw_goto (pc := 181) (tgt := 185) F dX10_counts_181 (by decide) ?_
      refine sw_ladd (pc := 185) F dX10_counts_185 ?_
      refine sw_topl (fun x_90 ex_90 => ?_)
      obtain ⟨f_91, ef_91⟩ : ∃ y : Nat → Int64, y = vp_updL f_84 55 x_90 := ⟨_, rfl⟩
      refine sw_last (pc := 186) (ws' := [(h0, .inr (10, [.ref b0, .ref b1, .int np, .int th, .long hh])), (b0, .inl (G.2.1.2, 344, .inr (.inl f_91))), (b1, .inl (G.2.1.2, 1032, .inr (.inl P)))]) F 1 rfl (sw_in rfl) dX10_counts_186 (by rw [ef_91]; rfl) ?_
      refine sw_iinc (pc := 187) (v := 3) (lv' := [(1, .int 3), (2, .long x_81), (0, .ref h0)]) F T.1 dX10_counts_187 (q := 1) rfl rfl (by decide) rfl ?_
      refine sw_goto (pc := 190) (tgt := 114) F dX10_counts_190 (by decide) ?_
      refine sw_lvs (is := [0, 2]) (lv' := [(1, .int 3), (0, .ref h0)]) rfl ?_
      subst ef_91
      subst ex_90
      subst ex_86
      subst ex_85
      subst ef_84
      subst ex_83
      subst ex_82
      subst ex_81
      exact J9 _ (by rw [← hS8]; unfold g_X10_counts_8; rw [if_pos c_87]) 
  have J7 : ∀ (S7 : Nat → Int64), S7 = (g_X10_counts_6 (g_X10_counts_5 (g_X10_counts_4 (g_X10_counts_3 (g_X10_counts_2 (g_X10_counts_1 (g_X10_counts_0 S))))))) → SW G C 0 0 [(h0, .inr (10, [.ref b0, .ref b1, .int np, .int th, .long hh])), (b0, .inl (G.2.1.2, 344, .inr (.inl S7))), (b1, .inl (G.2.1.2, 1032, .inr (.inl P)))] [(1, .int 1), (0, .ref h0)] 114 [] := by
    intro S7 hS7 
    refine sw_iload_n (pc := 114) F dX10_counts_114 rfl 0 rfl ?_
    refine sw_iconst (pc := 115) (v := 3) F dX10_counts_115 rfl ?_
    refine sw_icmp_ge (pc := 116) (tgt := 193) F dX10_counts_116 (by decide) (fun c => absurd c (by decide)) (fun _ => ?_)
    refine sw_iload_n (pc := 119) F dX10_counts_119 rfl 0 rfl ?_
    refine sw_if_ne (pc := 120) (tgt := 133) F dX10_counts_120 (by decide) (fun _ => ?_) (fun c => absurd c (by decide))
    refine sw_aload_n (pc := 133) F dX10_counts_133 rfl 1 rfl ?_
    refine sw_get (pc := 134) (Cn := RX10) (T := TX10) (N := 5) (ci := 10) (v := .ref b0) F in10 0 rfl rfl 0 (by decide) rfl (List.mem_of_getElem? (i := 1) rfl) rfl dX10_counts_134 ?_
    refine sw_bipush (pc := 137) (v := 18) F dX10_counts_137 rfl ?_
    refine sw_iload_n (pc := 139) F dX10_counts_139 rfl 0 rfl ?_
    refine sw_iadd (pc := 140) F dX10_counts_140 ?_
    refine sw_eqt (v := .int 19) (by rfl) ?_
    refine sw_iconst (pc := 141) (v := 1) F dX10_counts_141 rfl ?_
    refine sw_iadd (pc := 142) F dX10_counts_142 ?_
    refine sw_eqt (v := .int 20) (by rfl) ?_
    refine sw_lald (pc := 143) F 1 rfl (sw_in rfl) dX10_counts_143 ?_
    refine sw_naml (e := S7 20) rfl (fun x_70 ex_70 => ?_)
    refine sw_lstore_n (pc := 144) (lv' := [(2, .long x_70), (1, .int 1), (0, .ref h0)]) F T.1 dX10_counts_144 rfl (by decide) rfl ?_
    refine sw_aload_n (pc := 145) F dX10_counts_145 rfl 2 rfl ?_
    refine sw_get (pc := 146) (Cn := RX10) (T := TX10) (N := 5) (ci := 10) (v := .ref b0) F in10 0 rfl rfl 0 (by decide) rfl (List.mem_of_getElem? (i := 1) rfl) rfl dX10_counts_146 ?_
    refine sw_bipush (pc := 149) (v := 56) F dX10_counts_149 rfl ?_
    refine sw_iload_n (pc := 151) F dX10_counts_151 rfl 1 rfl ?_
    refine sw_iadd (pc := 152) F dX10_counts_152 ?_
    refine sw_eqt (v := .int 57) (by rfl) ?_
    refine sw_dup2 (pc := 153) F dX10_counts_153 rfl rfl ?_
    refine sw_lald (pc := 154) F 1 rfl (sw_in rfl) dX10_counts_154 ?_
    refine sw_naml (e := S7 57) rfl (fun x_71 ex_71 => ?_)
    refine sw_lload_n (pc := 155) F dX10_counts_155 rfl 0 rfl ?_
    refine sw_ladd (pc := 156) F dX10_counts_156 ?_
    refine sw_topl (fun x_72 ex_72 => ?_)
    obtain ⟨f_73, ef_73⟩ : ∃ y : Nat → Int64, y = vp_updL S7 57 x_72 := ⟨_, rfl⟩
    refine sw_last (pc := 157) (ws' := [(h0, .inr (10, [.ref b0, .ref b1, .int np, .int th, .long hh])), (b0, .inl (G.2.1.2, 344, .inr (.inl f_73))), (b1, .inl (G.2.1.2, 1032, .inr (.inl P)))]) F 1 rfl (sw_in rfl) dX10_counts_157 (by rw [ef_73]; rfl) ?_
    refine sw_aload_n (pc := 158) F dX10_counts_158 rfl 2 rfl ?_
    refine sw_get (pc := 159) (Cn := RX10) (T := TX10) (N := 5) (ci := 10) (v := .ref b0) F in10 0 rfl rfl 0 (by decide) rfl (List.mem_of_getElem? (i := 1) rfl) rfl dX10_counts_159 ?_
    refine sw_bipush (pc := 162) (v := 53) F dX10_counts_162 rfl ?_
    refine sw_iload_n (pc := 164) F dX10_counts_164 rfl 1 rfl ?_
    refine sw_iadd (pc := 165) F dX10_counts_165 ?_
    refine sw_eqt (v := .int 54) (by rfl) ?_
    refine sw_dup2 (pc := 166) F dX10_counts_166 rfl rfl ?_
    refine sw_lald (pc := 167) F 1 rfl (sw_in rfl) dX10_counts_167 ?_
    refine sw_naml (e := f_73 54) rfl (fun x_74 ex_74 => ?_)
    refine sw_aload_n (pc := 168) F dX10_counts_168 rfl 2 rfl ?_
    refine sw_get (pc := 169) (Cn := RX10) (T := TX10) (N := 5) (ci := 10) (v := .ref b0) F in10 0 rfl rfl 0 (by decide) rfl (List.mem_of_getElem? (i := 1) rfl) rfl dX10_counts_169 ?_
    refine sw_bipush (pc := 172) (v := 41) F dX10_counts_172 rfl ?_
    refine sw_lald (pc := 174) F 1 rfl (sw_in rfl) dX10_counts_174 ?_
    refine sw_naml (e := f_73 41) rfl (fun x_75 ex_75 => ?_)
    refine sw_lconst (pc := 175) (v := 1) F dX10_counts_175 rfl ?_
    refine sw_lcmp_ne (pc := 176) (tgt := 184) F dX10_counts_176 dX10_counts_177 (by decide) (fun c_76 => ?_) (fun c_76 => ?_)
    · skip
      refine sw_lconst (pc := 184) (v := 0) F dX10_counts_184 rfl ?_
      refine sw_ladd (pc := 185) F dX10_counts_185 ?_
      refine sw_topl (fun x_77 ex_77 => ?_)
      obtain ⟨f_78, ef_78⟩ : ∃ y : Nat → Int64, y = vp_updL f_73 54 x_77 := ⟨_, rfl⟩
      refine sw_last (pc := 186) (ws' := [(h0, .inr (10, [.ref b0, .ref b1, .int np, .int th, .long hh])), (b0, .inl (G.2.1.2, 344, .inr (.inl f_78))), (b1, .inl (G.2.1.2, 1032, .inr (.inl P)))]) F 1 rfl (sw_in rfl) dX10_counts_186 (by rw [ef_78]; rfl) ?_
      refine sw_iinc (pc := 187) (v := 2) (lv' := [(1, .int 2), (2, .long x_70), (0, .ref h0)]) F T.1 dX10_counts_187 (q := 1) rfl rfl (by decide) rfl ?_
      refine sw_goto (pc := 190) (tgt := 114) F dX10_counts_190 (by decide) ?_
      refine sw_lvs (is := [0, 2]) (lv' := [(1, .int 2), (0, .ref h0)]) rfl ?_
      subst ef_78
      subst ex_77
      subst ex_75
      subst ex_74
      subst ef_73
      subst ex_72
      subst ex_71
      subst ex_70
      exact J8 _ (by rw [← hS7]; unfold g_X10_counts_7; rw [if_neg c_76]) 
    · skip
      refine sw_lload_n (pc := 180) F dX10_counts_180 rfl 0 rfl ?_
      refine sw_goto (pc := 181) (tgt := 185) F dX10_counts_181 (by decide) ?_
      refine sw_ladd (pc := 185) F dX10_counts_185 ?_
      refine sw_topl (fun x_79 ex_79 => ?_)
      obtain ⟨f_80, ef_80⟩ : ∃ y : Nat → Int64, y = vp_updL f_73 54 x_79 := ⟨_, rfl⟩
      refine sw_last (pc := 186) (ws' := [(h0, .inr (10, [.ref b0, .ref b1, .int np, .int th, .long hh])), (b0, .inl (G.2.1.2, 344, .inr (.inl f_80))), (b1, .inl (G.2.1.2, 1032, .inr (.inl P)))]) F 1 rfl (sw_in rfl) dX10_counts_186 (by rw [ef_80]; rfl) ?_
      refine sw_iinc (pc := 187) (v := 2) (lv' := [(1, .int 2), (2, .long x_70), (0, .ref h0)]) F T.1 dX10_counts_187 (q := 1) rfl rfl (by decide) rfl ?_
      refine sw_goto (pc := 190) (tgt := 114) F dX10_counts_190 (by decide) ?_
      refine sw_lvs (is := [0, 2]) (lv' := [(1, .int 2), (0, .ref h0)]) rfl ?_
      subst ef_80
      subst ex_79
      subst ex_75
      subst ex_74
      subst ef_73
      subst ex_72
      subst ex_71
      subst ex_70
      exact J8 _ (by rw [← hS7]; unfold g_X10_counts_7; rw [if_pos c_76]) 
  have J6 : ∀ (S6 : Nat → Int64), S6 = (g_X10_counts_5 (g_X10_counts_4 (g_X10_counts_3 (g_X10_counts_2 (g_X10_counts_1 (g_X10_counts_0 S)))))) → SW G C 0 0 [(h0, .inr (10, [.ref b0, .ref b1, .int np, .int th, .long hh])), (b0, .inl (G.2.1.2, 344, .inr (.inl S6))), (b1, .inl (G.2.1.2, 1032, .inr (.inl P)))] [(1, .int 0), (0, .ref h0)] 114 [] := by
    intro S6 hS6 
    refine sw_iload_n (pc := 114) F dX10_counts_114 rfl 0 rfl ?_
    refine sw_iconst (pc := 115) (v := 3) F dX10_counts_115 rfl ?_
    refine sw_icmp_ge (pc := 116) (tgt := 193) F dX10_counts_116 (by decide) (fun c => absurd c (by decide)) (fun _ => ?_)
    refine sw_iload_n (pc := 119) F dX10_counts_119 rfl 0 rfl ?_
    refine sw_if_ne (pc := 120) (tgt := 133) F dX10_counts_120 (by decide) (fun c => absurd c (by decide)) (fun _ => ?_)
    refine sw_aload_n (pc := 123) F dX10_counts_123 rfl 1 rfl ?_
    refine sw_get (pc := 124) (Cn := RX10) (T := TX10) (N := 5) (ci := 10) (v := .ref b0) F in10 0 rfl rfl 0 (by decide) rfl (List.mem_of_getElem? (i := 1) rfl) rfl dX10_counts_124 ?_
    refine sw_bipush (pc := 127) (v := 39) F dX10_counts_127 rfl ?_
    refine sw_lald (pc := 129) F 1 rfl (sw_in rfl) dX10_counts_129 ?_
    refine sw_naml (e := S6 39) rfl (fun x_59 ex_59 => ?_)
    refine sw_goto (pc := 130) (tgt := 144) F dX10_counts_130 (by decide) ?_
    refine sw_lstore_n (pc := 144) (lv' := [(2, .long x_59), (1, .int 0), (0, .ref h0)]) F T.1 dX10_counts_144 rfl (by decide) rfl ?_
    refine sw_aload_n (pc := 145) F dX10_counts_145 rfl 2 rfl ?_
    refine sw_get (pc := 146) (Cn := RX10) (T := TX10) (N := 5) (ci := 10) (v := .ref b0) F in10 0 rfl rfl 0 (by decide) rfl (List.mem_of_getElem? (i := 1) rfl) rfl dX10_counts_146 ?_
    refine sw_bipush (pc := 149) (v := 56) F dX10_counts_149 rfl ?_
    refine sw_iload_n (pc := 151) F dX10_counts_151 rfl 1 rfl ?_
    refine sw_iadd (pc := 152) F dX10_counts_152 ?_
    refine sw_eqt (v := .int 56) (by rfl) ?_
    refine sw_dup2 (pc := 153) F dX10_counts_153 rfl rfl ?_
    refine sw_lald (pc := 154) F 1 rfl (sw_in rfl) dX10_counts_154 ?_
    refine sw_naml (e := S6 56) rfl (fun x_60 ex_60 => ?_)
    refine sw_lload_n (pc := 155) F dX10_counts_155 rfl 0 rfl ?_
    refine sw_ladd (pc := 156) F dX10_counts_156 ?_
    refine sw_topl (fun x_61 ex_61 => ?_)
    obtain ⟨f_62, ef_62⟩ : ∃ y : Nat → Int64, y = vp_updL S6 56 x_61 := ⟨_, rfl⟩
    refine sw_last (pc := 157) (ws' := [(h0, .inr (10, [.ref b0, .ref b1, .int np, .int th, .long hh])), (b0, .inl (G.2.1.2, 344, .inr (.inl f_62))), (b1, .inl (G.2.1.2, 1032, .inr (.inl P)))]) F 1 rfl (sw_in rfl) dX10_counts_157 (by rw [ef_62]; rfl) ?_
    refine sw_aload_n (pc := 158) F dX10_counts_158 rfl 2 rfl ?_
    refine sw_get (pc := 159) (Cn := RX10) (T := TX10) (N := 5) (ci := 10) (v := .ref b0) F in10 0 rfl rfl 0 (by decide) rfl (List.mem_of_getElem? (i := 1) rfl) rfl dX10_counts_159 ?_
    refine sw_bipush (pc := 162) (v := 53) F dX10_counts_162 rfl ?_
    refine sw_iload_n (pc := 164) F dX10_counts_164 rfl 1 rfl ?_
    refine sw_iadd (pc := 165) F dX10_counts_165 ?_
    refine sw_eqt (v := .int 53) (by rfl) ?_
    refine sw_dup2 (pc := 166) F dX10_counts_166 rfl rfl ?_
    refine sw_lald (pc := 167) F 1 rfl (sw_in rfl) dX10_counts_167 ?_
    refine sw_naml (e := f_62 53) rfl (fun x_63 ex_63 => ?_)
    refine sw_aload_n (pc := 168) F dX10_counts_168 rfl 2 rfl ?_
    refine sw_get (pc := 169) (Cn := RX10) (T := TX10) (N := 5) (ci := 10) (v := .ref b0) F in10 0 rfl rfl 0 (by decide) rfl (List.mem_of_getElem? (i := 1) rfl) rfl dX10_counts_169 ?_
    refine sw_bipush (pc := 172) (v := 41) F dX10_counts_172 rfl ?_
    refine sw_lald (pc := 174) F 1 rfl (sw_in rfl) dX10_counts_174 ?_
    refine sw_naml (e := f_62 41) rfl (fun x_64 ex_64 => ?_)
    refine sw_lconst (pc := 175) (v := 1) F dX10_counts_175 rfl ?_
    refine sw_lcmp_ne (pc := 176) (tgt := 184) F dX10_counts_176 dX10_counts_177 (by decide) (fun c_65 => ?_) (fun c_65 => ?_)
    · skip
      refine sw_lconst (pc := 184) (v := 0) F dX10_counts_184 rfl ?_
      refine sw_ladd (pc := 185) F dX10_counts_185 ?_
      refine sw_topl (fun x_66 ex_66 => ?_)
      obtain ⟨f_67, ef_67⟩ : ∃ y : Nat → Int64, y = vp_updL f_62 53 x_66 := ⟨_, rfl⟩
      refine sw_last (pc := 186) (ws' := [(h0, .inr (10, [.ref b0, .ref b1, .int np, .int th, .long hh])), (b0, .inl (G.2.1.2, 344, .inr (.inl f_67))), (b1, .inl (G.2.1.2, 1032, .inr (.inl P)))]) F 1 rfl (sw_in rfl) dX10_counts_186 (by rw [ef_67]; rfl) ?_
      refine sw_iinc (pc := 187) (v := 1) (lv' := [(1, .int 1), (2, .long x_59), (0, .ref h0)]) F T.1 dX10_counts_187 (q := 1) rfl rfl (by decide) rfl ?_
      refine sw_goto (pc := 190) (tgt := 114) F dX10_counts_190 (by decide) ?_
      refine sw_lvs (is := [0, 2]) (lv' := [(1, .int 1), (0, .ref h0)]) rfl ?_
      subst ef_67
      subst ex_66
      subst ex_64
      subst ex_63
      subst ef_62
      subst ex_61
      subst ex_60
      subst ex_59
      exact J7 _ (by rw [← hS6]; unfold g_X10_counts_6; rw [if_neg c_65]) 
    · skip
      refine sw_lload_n (pc := 180) F dX10_counts_180 rfl 0 rfl ?_
      refine sw_goto (pc := 181) (tgt := 185) F dX10_counts_181 (by decide) ?_
      refine sw_ladd (pc := 185) F dX10_counts_185 ?_
      refine sw_topl (fun x_68 ex_68 => ?_)
      obtain ⟨f_69, ef_69⟩ : ∃ y : Nat → Int64, y = vp_updL f_62 53 x_68 := ⟨_, rfl⟩
      refine sw_last (pc := 186) (ws' := [(h0, .inr (10, [.ref b0, .ref b1, .int np, .int th, .long hh])), (b0, .inl (G.2.1.2, 344, .inr (.inl f_69))), (b1, .inl (G.2.1.2, 1032, .inr (.inl P)))]) F 1 rfl (sw_in rfl) dX10_counts_186 (by rw [ef_69]; rfl) ?_
      refine sw_iinc (pc := 187) (v := 1) (lv' := [(1, .int 1), (2, .long x_59), (0, .ref h0)]) F T.1 dX10_counts_187 (q := 1) rfl rfl (by decide) rfl ?_
      refine sw_goto (pc := 190) (tgt := 114) F dX10_counts_190 (by decide) ?_
      refine sw_lvs (is := [0, 2]) (lv' := [(1, .int 1), (0, .ref h0)]) rfl ?_
      subst ef_69
      subst ex_68
      subst ex_64
      subst ex_63
      subst ef_62
      subst ex_61
      subst ex_60
      subst ex_59
      exact J7 _ (by rw [← hS6]; unfold g_X10_counts_6; rw [if_pos c_65]) 
  have J5 : ∀ (S5 : Nat → Int64), S5 = (g_X10_counts_4 (g_X10_counts_3 (g_X10_counts_2 (g_X10_counts_1 (g_X10_counts_0 S))))) → SW G C 0 0 [(h0, .inr (10, [.ref b0, .ref b1, .int np, .int th, .long hh])), (b0, .inl (G.2.1.2, 344, .inr (.inl S5))), (b1, .inl (G.2.1.2, 1032, .inr (.inl P)))] [(1, .int 4), (0, .ref h0)] 47 [] := by
    intro S5 hS5 
    refine sw_iload_n (pc := 47) F dX10_counts_47 rfl 0 rfl ?_
    refine sw_iconst (pc := 48) (v := 4) F dX10_counts_48 rfl ?_
    refine sw_icmp_ge (pc := 49) (tgt := 83) F dX10_counts_49 (by decide) (fun _ => ?_) (fun c => absurd c (by decide))
    refine sw_aload_n (pc := 83) F dX10_counts_83 rfl 1 rfl ?_
    refine sw_get (pc := 84) (Cn := RX10) (T := TX10) (N := 5) (ci := 10) (v := .ref b0) F in10 0 rfl rfl 0 (by decide) rfl (List.mem_of_getElem? (i := 1) rfl) rfl dX10_counts_84 ?_
    refine sw_bipush (pc := 87) (v := 51) F dX10_counts_87 rfl ?_
    refine sw_dup2 (pc := 89) F dX10_counts_89 rfl rfl ?_
    refine sw_lald (pc := 90) F 1 rfl (sw_in rfl) dX10_counts_90 ?_
    refine sw_naml (e := S5 51) rfl (fun x_52 ex_52 => ?_)
    refine sw_aload_n (pc := 91) F dX10_counts_91 rfl 1 rfl ?_
    refine sw_get (pc := 92) (Cn := RX10) (T := TX10) (N := 5) (ci := 10) (v := .ref b0) F in10 0 rfl rfl 0 (by decide) rfl (List.mem_of_getElem? (i := 1) rfl) rfl dX10_counts_92 ?_
    refine sw_bipush (pc := 95) (v := 38) F dX10_counts_95 rfl ?_
    refine sw_lald (pc := 97) F 1 rfl (sw_in rfl) dX10_counts_97 ?_
    refine sw_naml (e := S5 38) rfl (fun x_53 ex_53 => ?_)
    refine sw_lconst (pc := 98) (v := 0) F dX10_counts_98 rfl ?_
    refine sw_lcmp_le (pc := 99) (tgt := 109) F dX10_counts_99 dX10_counts_100 (by decide) (fun c_54 => ?_) (fun c_54 => ?_)
    · skip
      refine sw_lconst (pc := 109) (v := 0) F dX10_counts_109 rfl ?_
      refine sw_lor (pc := 110) F dX10_counts_110 ?_
      refine sw_topl (fun x_55 ex_55 => ?_)
      obtain ⟨f_56, ef_56⟩ : ∃ y : Nat → Int64, y = vp_updL S5 51 x_55 := ⟨_, rfl⟩
      refine sw_last (pc := 111) (ws' := [(h0, .inr (10, [.ref b0, .ref b1, .int np, .int th, .long hh])), (b0, .inl (G.2.1.2, 344, .inr (.inl f_56))), (b1, .inl (G.2.1.2, 1032, .inr (.inl P)))]) F 1 rfl (sw_in rfl) dX10_counts_111 (by rw [ef_56]; rfl) ?_
      refine sw_iconst (pc := 112) (v := 0) F dX10_counts_112 rfl ?_
      refine sw_istore_n (pc := 113) (lv' := [(1, .int 0), (0, .ref h0)]) F T.1 dX10_counts_113 rfl (by decide) rfl ?_
      refine sw_lvs (is := [0, 1]) (lv' := [(1, .int 0), (0, .ref h0)]) rfl ?_
      subst ef_56
      subst ex_55
      subst ex_53
      subst ex_52
      exact J6 _ (by rw [← hS5]; unfold g_X10_counts_5; rw [if_pos c_54]) 
    · skip
      refine sw_ldc2 (pc := 103) (v := 16) F (List.mem_of_getElem? (i := 2) rfl) dX10_counts_103 ?_
      refine sw_goto (pc := 106) (tgt := 110) F dX10_counts_106 (by decide) ?_
      refine sw_lor (pc := 110) F dX10_counts_110 ?_
      refine sw_topl (fun x_57 ex_57 => ?_)
      obtain ⟨f_58, ef_58⟩ : ∃ y : Nat → Int64, y = vp_updL S5 51 x_57 := ⟨_, rfl⟩
      refine sw_last (pc := 111) (ws' := [(h0, .inr (10, [.ref b0, .ref b1, .int np, .int th, .long hh])), (b0, .inl (G.2.1.2, 344, .inr (.inl f_58))), (b1, .inl (G.2.1.2, 1032, .inr (.inl P)))]) F 1 rfl (sw_in rfl) dX10_counts_111 (by rw [ef_58]; rfl) ?_
      refine sw_iconst (pc := 112) (v := 0) F dX10_counts_112 rfl ?_
      refine sw_istore_n (pc := 113) (lv' := [(1, .int 0), (0, .ref h0)]) F T.1 dX10_counts_113 rfl (by decide) rfl ?_
      refine sw_lvs (is := [0, 1]) (lv' := [(1, .int 0), (0, .ref h0)]) rfl ?_
      subst ef_58
      subst ex_57
      subst ex_53
      subst ex_52
      exact J6 _ (by rw [← hS5]; unfold g_X10_counts_5; rw [if_neg c_54]) 
  have J4 : ∀ (S4 : Nat → Int64), S4 = (g_X10_counts_3 (g_X10_counts_2 (g_X10_counts_1 (g_X10_counts_0 S)))) → SW G C 0 0 [(h0, .inr (10, [.ref b0, .ref b1, .int np, .int th, .long hh])), (b0, .inl (G.2.1.2, 344, .inr (.inl S4))), (b1, .inl (G.2.1.2, 1032, .inr (.inl P)))] [(1, .int 3), (0, .ref h0)] 47 [] := by
    intro S4 hS4 
    refine sw_iload_n (pc := 47) F dX10_counts_47 rfl 0 rfl ?_
    refine sw_iconst (pc := 48) (v := 4) F dX10_counts_48 rfl ?_
    refine sw_icmp_ge (pc := 49) (tgt := 83) F dX10_counts_49 (by decide) (fun c => absurd c (by decide)) (fun _ => ?_)
    refine sw_aload_n (pc := 52) F dX10_counts_52 rfl 1 rfl ?_
    refine sw_get (pc := 53) (Cn := RX10) (T := TX10) (N := 5) (ci := 10) (v := .ref b0) F in10 0 rfl rfl 0 (by decide) rfl (List.mem_of_getElem? (i := 1) rfl) rfl dX10_counts_53 ?_
    refine sw_bipush (pc := 56) (v := 51) F dX10_counts_56 rfl ?_
    refine sw_dup2 (pc := 58) F dX10_counts_58 rfl rfl ?_
    refine sw_lald (pc := 59) F 1 rfl (sw_in rfl) dX10_counts_59 ?_
    refine sw_naml (e := S4 51) rfl (fun x_42 ex_42 => ?_)
    refine sw_aload_n (pc := 60) F dX10_counts_60 rfl 1 rfl ?_
    refine sw_iload_n (pc := 61) F dX10_counts_61 rfl 0 rfl ?_
    refine sw_calli (pc := 62) (wr := []) (k' := 0) (n' := 0) F (sw_runV (R := ({ frames := 1, cells := 0, slots := 0, locals := 21 } : Room)) (q0 := 0) (na := 1) F T.2.1 T.2.2.1 (k_X10_isFaulty l G h0 b0 b1 np th hh S4 P 3 3 rfl (by omega)) [0, 1, 2] rfl (by decide) gX10_counts_X10_isFaulty rfl rfl rfl (by decide +kernel) ⟨Nat.le_of_ble_eq_true rfl, Nat.le_of_ble_eq_true rfl⟩ rfl rfl rfl rfl rfl (Nat.le_of_ble_eq_true rfl) dX10_counts_62 (Nat.le_of_ble_eq_true rfl) (Nat.le_of_ble_eq_true rfl)) [0, 1, 2] [] rfl rfl (by decide) (by decide) rfl rfl (fun r_43 u_44 h_45 => ?_)
    have e_46 : r_43 = f_X10_isFaulty_r S4 3 := h_45
    refine sw_eq (ws' := [(h0, .inr (10, [.ref b0, .ref b1, .int np, .int th, .long hh])), (b0, .inl (G.2.1.2, 344, .inr (.inl S4))), (b1, .inl (G.2.1.2, 1032, .inr (.inl P)))]) (lv' := [(1, .int 3), (0, .ref h0)]) (st' := [.int r_43, .long x_42, .int 51, .ref b0]) rfl rfl rfl ?_
    refine sw_if_eq (pc := 65) (tgt := 74) F dX10_counts_65 (by decide) (fun c_47 => ?_) (fun c_47 => ?_)
    · skip
      refine sw_lconst (pc := 74) (v := 0) F dX10_counts_74 rfl ?_
      refine sw_lor (pc := 75) F dX10_counts_75 ?_
      refine sw_topl (fun x_48 ex_48 => ?_)
      obtain ⟨f_49, ef_49⟩ : ∃ y : Nat → Int64, y = vp_updL S4 51 x_48 := ⟨_, rfl⟩
      refine sw_last (pc := 76) (ws' := [(h0, .inr (10, [.ref b0, .ref b1, .int np, .int th, .long hh])), (b0, .inl (G.2.1.2, 344, .inr (.inl f_49))), (b1, .inl (G.2.1.2, 1032, .inr (.inl P)))]) F 1 rfl (sw_in rfl) dX10_counts_76 (by rw [ef_49]; rfl) ?_
      refine sw_iinc (pc := 77) (v := 4) (lv' := [(1, .int 4), (0, .ref h0)]) F T.1 dX10_counts_77 (q := 0) rfl rfl (by decide) rfl ?_
      refine sw_goto (pc := 80) (tgt := 47) F dX10_counts_80 (by decide) ?_
      refine sw_lvs (is := [0, 1]) (lv' := [(1, .int 4), (0, .ref h0)]) rfl ?_
      subst ef_49
      subst ex_48
      subst e_46
      subst ex_42
      exact J5 _ (by rw [← hS4]; unfold g_X10_counts_4; rw [if_pos c_47]) 
    · skip
      refine sw_lconst (pc := 68) (v := 1) F dX10_counts_68 rfl ?_
      refine sw_iload_n (pc := 69) F dX10_counts_69 rfl 0 rfl ?_
      refine sw_lshl (pc := 70) F dX10_counts_70 ?_
      refine sw_eqt (v := .long 8) (by rfl) ?_
      refine sw_goto (pc := 71) (tgt := 75) F dX10_counts_71 (by decide) ?_
      refine sw_lor (pc := 75) F dX10_counts_75 ?_
      refine sw_topl (fun x_50 ex_50 => ?_)
      obtain ⟨f_51, ef_51⟩ : ∃ y : Nat → Int64, y = vp_updL S4 51 x_50 := ⟨_, rfl⟩
      refine sw_last (pc := 76) (ws' := [(h0, .inr (10, [.ref b0, .ref b1, .int np, .int th, .long hh])), (b0, .inl (G.2.1.2, 344, .inr (.inl f_51))), (b1, .inl (G.2.1.2, 1032, .inr (.inl P)))]) F 1 rfl (sw_in rfl) dX10_counts_76 (by rw [ef_51]; rfl) ?_
      refine sw_iinc (pc := 77) (v := 4) (lv' := [(1, .int 4), (0, .ref h0)]) F T.1 dX10_counts_77 (q := 0) rfl rfl (by decide) rfl ?_
      refine sw_goto (pc := 80) (tgt := 47) F dX10_counts_80 (by decide) ?_
      refine sw_lvs (is := [0, 1]) (lv' := [(1, .int 4), (0, .ref h0)]) rfl ?_
      subst ef_51
      subst ex_50
      subst e_46
      subst ex_42
      exact J5 _ (by rw [← hS4]; unfold g_X10_counts_4; rw [if_neg c_47]) 
  have J3 : ∀ (S3 : Nat → Int64), S3 = (g_X10_counts_2 (g_X10_counts_1 (g_X10_counts_0 S))) → SW G C 0 0 [(h0, .inr (10, [.ref b0, .ref b1, .int np, .int th, .long hh])), (b0, .inl (G.2.1.2, 344, .inr (.inl S3))), (b1, .inl (G.2.1.2, 1032, .inr (.inl P)))] [(1, .int 2), (0, .ref h0)] 47 [] := by
    intro S3 hS3 
    refine sw_iload_n (pc := 47) F dX10_counts_47 rfl 0 rfl ?_
    refine sw_iconst (pc := 48) (v := 4) F dX10_counts_48 rfl ?_
    refine sw_icmp_ge (pc := 49) (tgt := 83) F dX10_counts_49 (by decide) (fun c => absurd c (by decide)) (fun _ => ?_)
    refine sw_aload_n (pc := 52) F dX10_counts_52 rfl 1 rfl ?_
    refine sw_get (pc := 53) (Cn := RX10) (T := TX10) (N := 5) (ci := 10) (v := .ref b0) F in10 0 rfl rfl 0 (by decide) rfl (List.mem_of_getElem? (i := 1) rfl) rfl dX10_counts_53 ?_
    refine sw_bipush (pc := 56) (v := 51) F dX10_counts_56 rfl ?_
    refine sw_dup2 (pc := 58) F dX10_counts_58 rfl rfl ?_
    refine sw_lald (pc := 59) F 1 rfl (sw_in rfl) dX10_counts_59 ?_
    refine sw_naml (e := S3 51) rfl (fun x_32 ex_32 => ?_)
    refine sw_aload_n (pc := 60) F dX10_counts_60 rfl 1 rfl ?_
    refine sw_iload_n (pc := 61) F dX10_counts_61 rfl 0 rfl ?_
    refine sw_calli (pc := 62) (wr := []) (k' := 0) (n' := 0) F (sw_runV (R := ({ frames := 1, cells := 0, slots := 0, locals := 21 } : Room)) (q0 := 0) (na := 1) F T.2.1 T.2.2.1 (k_X10_isFaulty l G h0 b0 b1 np th hh S3 P 2 2 rfl (by omega)) [0, 1, 2] rfl (by decide) gX10_counts_X10_isFaulty rfl rfl rfl (by decide +kernel) ⟨Nat.le_of_ble_eq_true rfl, Nat.le_of_ble_eq_true rfl⟩ rfl rfl rfl rfl rfl (Nat.le_of_ble_eq_true rfl) dX10_counts_62 (Nat.le_of_ble_eq_true rfl) (Nat.le_of_ble_eq_true rfl)) [0, 1, 2] [] rfl rfl (by decide) (by decide) rfl rfl (fun r_33 u_34 h_35 => ?_)
    have e_36 : r_33 = f_X10_isFaulty_r S3 2 := h_35
    refine sw_eq (ws' := [(h0, .inr (10, [.ref b0, .ref b1, .int np, .int th, .long hh])), (b0, .inl (G.2.1.2, 344, .inr (.inl S3))), (b1, .inl (G.2.1.2, 1032, .inr (.inl P)))]) (lv' := [(1, .int 2), (0, .ref h0)]) (st' := [.int r_33, .long x_32, .int 51, .ref b0]) rfl rfl rfl ?_
    refine sw_if_eq (pc := 65) (tgt := 74) F dX10_counts_65 (by decide) (fun c_37 => ?_) (fun c_37 => ?_)
    · skip
      refine sw_lconst (pc := 74) (v := 0) F dX10_counts_74 rfl ?_
      refine sw_lor (pc := 75) F dX10_counts_75 ?_
      refine sw_topl (fun x_38 ex_38 => ?_)
      obtain ⟨f_39, ef_39⟩ : ∃ y : Nat → Int64, y = vp_updL S3 51 x_38 := ⟨_, rfl⟩
      refine sw_last (pc := 76) (ws' := [(h0, .inr (10, [.ref b0, .ref b1, .int np, .int th, .long hh])), (b0, .inl (G.2.1.2, 344, .inr (.inl f_39))), (b1, .inl (G.2.1.2, 1032, .inr (.inl P)))]) F 1 rfl (sw_in rfl) dX10_counts_76 (by rw [ef_39]; rfl) ?_
      refine sw_iinc (pc := 77) (v := 3) (lv' := [(1, .int 3), (0, .ref h0)]) F T.1 dX10_counts_77 (q := 0) rfl rfl (by decide) rfl ?_
      refine sw_goto (pc := 80) (tgt := 47) F dX10_counts_80 (by decide) ?_
      refine sw_lvs (is := [0, 1]) (lv' := [(1, .int 3), (0, .ref h0)]) rfl ?_
      subst ef_39
      subst ex_38
      subst e_36
      subst ex_32
      exact J4 _ (by rw [← hS3]; unfold g_X10_counts_3; rw [if_pos c_37]) 
    · skip
      refine sw_lconst (pc := 68) (v := 1) F dX10_counts_68 rfl ?_
      refine sw_iload_n (pc := 69) F dX10_counts_69 rfl 0 rfl ?_
      refine sw_lshl (pc := 70) F dX10_counts_70 ?_
      refine sw_eqt (v := .long 4) (by rfl) ?_
      refine sw_goto (pc := 71) (tgt := 75) F dX10_counts_71 (by decide) ?_
      refine sw_lor (pc := 75) F dX10_counts_75 ?_
      refine sw_topl (fun x_40 ex_40 => ?_)
      obtain ⟨f_41, ef_41⟩ : ∃ y : Nat → Int64, y = vp_updL S3 51 x_40 := ⟨_, rfl⟩
      refine sw_last (pc := 76) (ws' := [(h0, .inr (10, [.ref b0, .ref b1, .int np, .int th, .long hh])), (b0, .inl (G.2.1.2, 344, .inr (.inl f_41))), (b1, .inl (G.2.1.2, 1032, .inr (.inl P)))]) F 1 rfl (sw_in rfl) dX10_counts_76 (by rw [ef_41]; rfl) ?_
      refine sw_iinc (pc := 77) (v := 3) (lv' := [(1, .int 3), (0, .ref h0)]) F T.1 dX10_counts_77 (q := 0) rfl rfl (by decide) rfl ?_
      refine sw_goto (pc := 80) (tgt := 47) F dX10_counts_80 (by decide) ?_
      refine sw_lvs (is := [0, 1]) (lv' := [(1, .int 3), (0, .ref h0)]) rfl ?_
      subst ef_41
      subst ex_40
      subst e_36
      subst ex_32
      exact J4 _ (by rw [← hS3]; unfold g_X10_counts_3; rw [if_neg c_37]) 
  have J2 : ∀ (S2 : Nat → Int64), S2 = (g_X10_counts_1 (g_X10_counts_0 S)) → SW G C 0 0 [(h0, .inr (10, [.ref b0, .ref b1, .int np, .int th, .long hh])), (b0, .inl (G.2.1.2, 344, .inr (.inl S2))), (b1, .inl (G.2.1.2, 1032, .inr (.inl P)))] [(1, .int 1), (0, .ref h0)] 47 [] := by
    intro S2 hS2 
    refine sw_iload_n (pc := 47) F dX10_counts_47 rfl 0 rfl ?_
    refine sw_iconst (pc := 48) (v := 4) F dX10_counts_48 rfl ?_
    refine sw_icmp_ge (pc := 49) (tgt := 83) F dX10_counts_49 (by decide) (fun c => absurd c (by decide)) (fun _ => ?_)
    refine sw_aload_n (pc := 52) F dX10_counts_52 rfl 1 rfl ?_
    refine sw_get (pc := 53) (Cn := RX10) (T := TX10) (N := 5) (ci := 10) (v := .ref b0) F in10 0 rfl rfl 0 (by decide) rfl (List.mem_of_getElem? (i := 1) rfl) rfl dX10_counts_53 ?_
    refine sw_bipush (pc := 56) (v := 51) F dX10_counts_56 rfl ?_
    refine sw_dup2 (pc := 58) F dX10_counts_58 rfl rfl ?_
    refine sw_lald (pc := 59) F 1 rfl (sw_in rfl) dX10_counts_59 ?_
    refine sw_naml (e := S2 51) rfl (fun x_22 ex_22 => ?_)
    refine sw_aload_n (pc := 60) F dX10_counts_60 rfl 1 rfl ?_
    refine sw_iload_n (pc := 61) F dX10_counts_61 rfl 0 rfl ?_
    refine sw_calli (pc := 62) (wr := []) (k' := 0) (n' := 0) F (sw_runV (R := ({ frames := 1, cells := 0, slots := 0, locals := 21 } : Room)) (q0 := 0) (na := 1) F T.2.1 T.2.2.1 (k_X10_isFaulty l G h0 b0 b1 np th hh S2 P 1 1 rfl (by omega)) [0, 1, 2] rfl (by decide) gX10_counts_X10_isFaulty rfl rfl rfl (by decide +kernel) ⟨Nat.le_of_ble_eq_true rfl, Nat.le_of_ble_eq_true rfl⟩ rfl rfl rfl rfl rfl (Nat.le_of_ble_eq_true rfl) dX10_counts_62 (Nat.le_of_ble_eq_true rfl) (Nat.le_of_ble_eq_true rfl)) [0, 1, 2] [] rfl rfl (by decide) (by decide) rfl rfl (fun r_23 u_24 h_25 => ?_)
    have e_26 : r_23 = f_X10_isFaulty_r S2 1 := h_25
    refine sw_eq (ws' := [(h0, .inr (10, [.ref b0, .ref b1, .int np, .int th, .long hh])), (b0, .inl (G.2.1.2, 344, .inr (.inl S2))), (b1, .inl (G.2.1.2, 1032, .inr (.inl P)))]) (lv' := [(1, .int 1), (0, .ref h0)]) (st' := [.int r_23, .long x_22, .int 51, .ref b0]) rfl rfl rfl ?_
    refine sw_if_eq (pc := 65) (tgt := 74) F dX10_counts_65 (by decide) (fun c_27 => ?_) (fun c_27 => ?_)
    · skip
      refine sw_lconst (pc := 74) (v := 0) F dX10_counts_74 rfl ?_
      refine sw_lor (pc := 75) F dX10_counts_75 ?_
      refine sw_topl (fun x_28 ex_28 => ?_)
      obtain ⟨f_29, ef_29⟩ : ∃ y : Nat → Int64, y = vp_updL S2 51 x_28 := ⟨_, rfl⟩
      refine sw_last (pc := 76) (ws' := [(h0, .inr (10, [.ref b0, .ref b1, .int np, .int th, .long hh])), (b0, .inl (G.2.1.2, 344, .inr (.inl f_29))), (b1, .inl (G.2.1.2, 1032, .inr (.inl P)))]) F 1 rfl (sw_in rfl) dX10_counts_76 (by rw [ef_29]; rfl) ?_
      refine sw_iinc (pc := 77) (v := 2) (lv' := [(1, .int 2), (0, .ref h0)]) F T.1 dX10_counts_77 (q := 0) rfl rfl (by decide) rfl ?_
      refine sw_goto (pc := 80) (tgt := 47) F dX10_counts_80 (by decide) ?_
      refine sw_lvs (is := [0, 1]) (lv' := [(1, .int 2), (0, .ref h0)]) rfl ?_
      subst ef_29
      subst ex_28
      subst e_26
      subst ex_22
      exact J3 _ (by rw [← hS2]; unfold g_X10_counts_2; rw [if_pos c_27]) 
    · skip
      refine sw_lconst (pc := 68) (v := 1) F dX10_counts_68 rfl ?_
      refine sw_iload_n (pc := 69) F dX10_counts_69 rfl 0 rfl ?_
      refine sw_lshl (pc := 70) F dX10_counts_70 ?_
      refine sw_eqt (v := .long 2) (by rfl) ?_
      refine sw_goto (pc := 71) (tgt := 75) F dX10_counts_71 (by decide) ?_
      refine sw_lor (pc := 75) F dX10_counts_75 ?_
      refine sw_topl (fun x_30 ex_30 => ?_)
      obtain ⟨f_31, ef_31⟩ : ∃ y : Nat → Int64, y = vp_updL S2 51 x_30 := ⟨_, rfl⟩
      refine sw_last (pc := 76) (ws' := [(h0, .inr (10, [.ref b0, .ref b1, .int np, .int th, .long hh])), (b0, .inl (G.2.1.2, 344, .inr (.inl f_31))), (b1, .inl (G.2.1.2, 1032, .inr (.inl P)))]) F 1 rfl (sw_in rfl) dX10_counts_76 (by rw [ef_31]; rfl) ?_
      refine sw_iinc (pc := 77) (v := 2) (lv' := [(1, .int 2), (0, .ref h0)]) F T.1 dX10_counts_77 (q := 0) rfl rfl (by decide) rfl ?_
      refine sw_goto (pc := 80) (tgt := 47) F dX10_counts_80 (by decide) ?_
      refine sw_lvs (is := [0, 1]) (lv' := [(1, .int 2), (0, .ref h0)]) rfl ?_
      subst ef_31
      subst ex_30
      subst e_26
      subst ex_22
      exact J3 _ (by rw [← hS2]; unfold g_X10_counts_2; rw [if_neg c_27]) 
  have J1 : ∀ (S1 : Nat → Int64), S1 = (g_X10_counts_0 S) → SW G C 0 0 [(h0, .inr (10, [.ref b0, .ref b1, .int np, .int th, .long hh])), (b0, .inl (G.2.1.2, 344, .inr (.inl S1))), (b1, .inl (G.2.1.2, 1032, .inr (.inl P)))] [(1, .int 0), (0, .ref h0)] 47 [] := by
    intro S1 hS1 
    refine sw_iload_n (pc := 47) F dX10_counts_47 rfl 0 rfl ?_
    refine sw_iconst (pc := 48) (v := 4) F dX10_counts_48 rfl ?_
    refine sw_icmp_ge (pc := 49) (tgt := 83) F dX10_counts_49 (by decide) (fun c => absurd c (by decide)) (fun _ => ?_)
    refine sw_aload_n (pc := 52) F dX10_counts_52 rfl 1 rfl ?_
    refine sw_get (pc := 53) (Cn := RX10) (T := TX10) (N := 5) (ci := 10) (v := .ref b0) F in10 0 rfl rfl 0 (by decide) rfl (List.mem_of_getElem? (i := 1) rfl) rfl dX10_counts_53 ?_
    refine sw_bipush (pc := 56) (v := 51) F dX10_counts_56 rfl ?_
    refine sw_dup2 (pc := 58) F dX10_counts_58 rfl rfl ?_
    refine sw_lald (pc := 59) F 1 rfl (sw_in rfl) dX10_counts_59 ?_
    refine sw_naml (e := S1 51) rfl (fun x_12 ex_12 => ?_)
    refine sw_aload_n (pc := 60) F dX10_counts_60 rfl 1 rfl ?_
    refine sw_iload_n (pc := 61) F dX10_counts_61 rfl 0 rfl ?_
    refine sw_calli (pc := 62) (wr := []) (k' := 0) (n' := 0) F (sw_runV (R := ({ frames := 1, cells := 0, slots := 0, locals := 21 } : Room)) (q0 := 0) (na := 1) F T.2.1 T.2.2.1 (k_X10_isFaulty l G h0 b0 b1 np th hh S1 P 0 0 rfl (by omega)) [0, 1, 2] rfl (by decide) gX10_counts_X10_isFaulty rfl rfl rfl (by decide +kernel) ⟨Nat.le_of_ble_eq_true rfl, Nat.le_of_ble_eq_true rfl⟩ rfl rfl rfl rfl rfl (Nat.le_of_ble_eq_true rfl) dX10_counts_62 (Nat.le_of_ble_eq_true rfl) (Nat.le_of_ble_eq_true rfl)) [0, 1, 2] [] rfl rfl (by decide) (by decide) rfl rfl (fun r_13 u_14 h_15 => ?_)
    have e_16 : r_13 = f_X10_isFaulty_r S1 0 := h_15
    refine sw_eq (ws' := [(h0, .inr (10, [.ref b0, .ref b1, .int np, .int th, .long hh])), (b0, .inl (G.2.1.2, 344, .inr (.inl S1))), (b1, .inl (G.2.1.2, 1032, .inr (.inl P)))]) (lv' := [(1, .int 0), (0, .ref h0)]) (st' := [.int r_13, .long x_12, .int 51, .ref b0]) rfl rfl rfl ?_
    refine sw_if_eq (pc := 65) (tgt := 74) F dX10_counts_65 (by decide) (fun c_17 => ?_) (fun c_17 => ?_)
    · skip
      refine sw_lconst (pc := 74) (v := 0) F dX10_counts_74 rfl ?_
      refine sw_lor (pc := 75) F dX10_counts_75 ?_
      refine sw_topl (fun x_18 ex_18 => ?_)
      obtain ⟨f_19, ef_19⟩ : ∃ y : Nat → Int64, y = vp_updL S1 51 x_18 := ⟨_, rfl⟩
      refine sw_last (pc := 76) (ws' := [(h0, .inr (10, [.ref b0, .ref b1, .int np, .int th, .long hh])), (b0, .inl (G.2.1.2, 344, .inr (.inl f_19))), (b1, .inl (G.2.1.2, 1032, .inr (.inl P)))]) F 1 rfl (sw_in rfl) dX10_counts_76 (by rw [ef_19]; rfl) ?_
      refine sw_iinc (pc := 77) (v := 1) (lv' := [(1, .int 1), (0, .ref h0)]) F T.1 dX10_counts_77 (q := 0) rfl rfl (by decide) rfl ?_
      refine sw_goto (pc := 80) (tgt := 47) F dX10_counts_80 (by decide) ?_
      refine sw_lvs (is := [0, 1]) (lv' := [(1, .int 1), (0, .ref h0)]) rfl ?_
      subst ef_19
      subst ex_18
      subst e_16
      subst ex_12
      exact J2 _ (by rw [← hS1]; unfold g_X10_counts_1; rw [if_pos c_17]) 
    · skip
      refine sw_lconst (pc := 68) (v := 1) F dX10_counts_68 rfl ?_
      refine sw_iload_n (pc := 69) F dX10_counts_69 rfl 0 rfl ?_
      refine sw_lshl (pc := 70) F dX10_counts_70 ?_
      refine sw_eqt (v := .long 1) (by rfl) ?_
      refine sw_goto (pc := 71) (tgt := 75) F dX10_counts_71 (by decide) ?_
      refine sw_lor (pc := 75) F dX10_counts_75 ?_
      refine sw_topl (fun x_20 ex_20 => ?_)
      obtain ⟨f_21, ef_21⟩ : ∃ y : Nat → Int64, y = vp_updL S1 51 x_20 := ⟨_, rfl⟩
      refine sw_last (pc := 76) (ws' := [(h0, .inr (10, [.ref b0, .ref b1, .int np, .int th, .long hh])), (b0, .inl (G.2.1.2, 344, .inr (.inl f_21))), (b1, .inl (G.2.1.2, 1032, .inr (.inl P)))]) F 1 rfl (sw_in rfl) dX10_counts_76 (by rw [ef_21]; rfl) ?_
      refine sw_iinc (pc := 77) (v := 1) (lv' := [(1, .int 1), (0, .ref h0)]) F T.1 dX10_counts_77 (q := 0) rfl rfl (by decide) rfl ?_
      refine sw_goto (pc := 80) (tgt := 47) F dX10_counts_80 (by decide) ?_
      refine sw_lvs (is := [0, 1]) (lv' := [(1, .int 1), (0, .ref h0)]) rfl ?_
      subst ef_21
      subst ex_20
      subst e_16
      subst ex_12
      exact J2 _ (by rw [← hS1]; unfold g_X10_counts_1; rw [if_neg c_17]) 
  refine sw_aload_n (pc := 0) F dX10_counts_0 rfl 0 rfl ?_
  refine sw_get (pc := 1) (Cn := RX10) (T := TX10) (N := 5) (ci := 10) (v := .ref b0) F in10 0 rfl rfl 0 (by decide) rfl (List.mem_of_getElem? (i := 1) rfl) rfl dX10_counts_1 ?_
  refine sw_bipush (pc := 4) (v := 50) F dX10_counts_4 rfl ?_
  refine sw_dup2 (pc := 6) F dX10_counts_6 rfl rfl ?_
  refine sw_lald (pc := 7) F 1 rfl (sw_in rfl) dX10_counts_7 ?_
  refine sw_naml (e := S 50) rfl (fun x_1 ex_1 => ?_)
  refine sw_aload_n (pc := 8) F dX10_counts_8 rfl 0 rfl ?_
  refine sw_get (pc := 9) (Cn := RX10) (T := TX10) (N := 5) (ci := 10) (v := .ref b0) F in10 0 rfl rfl 0 (by decide) rfl (List.mem_of_getElem? (i := 1) rfl) rfl dX10_counts_9 ?_
  refine sw_bipush (pc := 12) (v := 40) F dX10_counts_12 rfl ?_
  refine sw_lald (pc := 14) F 1 rfl (sw_in rfl) dX10_counts_14 ?_
  refine sw_naml (e := S 40) rfl (fun x_2 ex_2 => ?_)
  refine sw_ladd (pc := 15) F dX10_counts_15 ?_
  refine sw_topl (fun x_3 ex_3 => ?_)
  obtain ⟨f_4, ef_4⟩ : ∃ y : Nat → Int64, y = vp_updL S 50 x_3 := ⟨_, rfl⟩
  refine sw_last (pc := 16) (ws' := [(h0, .inr (10, [.ref b0, .ref b1, .int np, .int th, .long hh])), (b0, .inl (G.2.1.2, 344, .inr (.inl f_4))), (b1, .inl (G.2.1.2, 1032, .inr (.inl P)))]) F 1 rfl (sw_in rfl) dX10_counts_16 (by rw [ef_4]; rfl) ?_
  refine sw_aload_n (pc := 17) F dX10_counts_17 rfl 0 rfl ?_
  refine sw_get (pc := 18) (Cn := RX10) (T := TX10) (N := 5) (ci := 10) (v := .ref b0) F in10 0 rfl rfl 0 (by decide) rfl (List.mem_of_getElem? (i := 1) rfl) rfl dX10_counts_18 ?_
  refine sw_bipush (pc := 21) (v := 59) F dX10_counts_21 rfl ?_
  refine sw_dup2 (pc := 23) F dX10_counts_23 rfl rfl ?_
  refine sw_lald (pc := 24) F 1 rfl (sw_in rfl) dX10_counts_24 ?_
  refine sw_naml (e := f_4 59) rfl (fun x_5 ex_5 => ?_)
  refine sw_lconst (pc := 25) (v := 1) F dX10_counts_25 rfl ?_
  refine sw_ladd (pc := 26) F dX10_counts_26 ?_
  refine sw_topl (fun x_6 ex_6 => ?_)
  obtain ⟨f_7, ef_7⟩ : ∃ y : Nat → Int64, y = vp_updL f_4 59 x_6 := ⟨_, rfl⟩
  refine sw_last (pc := 27) (ws' := [(h0, .inr (10, [.ref b0, .ref b1, .int np, .int th, .long hh])), (b0, .inl (G.2.1.2, 344, .inr (.inl f_7))), (b1, .inl (G.2.1.2, 1032, .inr (.inl P)))]) F 1 rfl (sw_in rfl) dX10_counts_27 (by rw [ef_7]; rfl) ?_
  refine sw_aload_n (pc := 28) F dX10_counts_28 rfl 0 rfl ?_
  refine sw_get (pc := 29) (Cn := RX10) (T := TX10) (N := 5) (ci := 10) (v := .ref b0) F in10 0 rfl rfl 0 (by decide) rfl (List.mem_of_getElem? (i := 1) rfl) rfl dX10_counts_29 ?_
  refine sw_bipush (pc := 32) (v := 52) F dX10_counts_32 rfl ?_
  refine sw_dup2 (pc := 34) F dX10_counts_34 rfl rfl ?_
  refine sw_lald (pc := 35) F 1 rfl (sw_in rfl) dX10_counts_35 ?_
  refine sw_naml (e := f_7 52) rfl (fun x_8 ex_8 => ?_)
  refine sw_aload_n (pc := 36) F dX10_counts_36 rfl 0 rfl ?_
  refine sw_get (pc := 37) (Cn := RX10) (T := TX10) (N := 5) (ci := 10) (v := .ref b0) F in10 0 rfl rfl 0 (by decide) rfl (List.mem_of_getElem? (i := 1) rfl) rfl dX10_counts_37 ?_
  refine sw_bipush (pc := 40) (v := 41) F dX10_counts_40 rfl ?_
  refine sw_lald (pc := 42) F 1 rfl (sw_in rfl) dX10_counts_42 ?_
  refine sw_naml (e := f_7 41) rfl (fun x_9 ex_9 => ?_)
  refine sw_ladd (pc := 43) F dX10_counts_43 ?_
  refine sw_topl (fun x_10 ex_10 => ?_)
  obtain ⟨f_11, ef_11⟩ : ∃ y : Nat → Int64, y = vp_updL f_7 52 x_10 := ⟨_, rfl⟩
  refine sw_last (pc := 44) (ws' := [(h0, .inr (10, [.ref b0, .ref b1, .int np, .int th, .long hh])), (b0, .inl (G.2.1.2, 344, .inr (.inl f_11))), (b1, .inl (G.2.1.2, 1032, .inr (.inl P)))]) F 1 rfl (sw_in rfl) dX10_counts_44 (by rw [ef_11]; rfl) ?_
  refine sw_iconst (pc := 45) (v := 0) F dX10_counts_45 rfl ?_
  refine sw_istore_n (pc := 46) (lv' := [(1, .int 0), (0, .ref h0)]) F T.1 dX10_counts_46 rfl (by decide) rfl ?_
  refine sw_lvs (is := [0, 1]) (lv' := [(1, .int 0), (0, .ref h0)]) rfl ?_
  subst ef_11
  subst ex_10
  subst ex_9
  subst ex_8
  subst ef_7
  subst ex_6
  subst ex_5
  subst ef_4
  subst ex_3
  subst ex_2
  subst ex_1
  exact J1 _ (by unfold g_X10_counts_0; rfl) 
def f_X10_endsDay_o1 (S : Nat → Int64) : Nat → Int64 := (vp_updL (vp_updL (vp_updL (vp_updL (vp_updL (vp_updL (vp_updL (md_comes 232 4 5 16 S) ((md_at 232 4 5 S) + 0) ((md_comes 232 4 5 16 S) 60)) 60 0) ((md_at 232 4 5 S) + 1) ((vp_updL (vp_updL (md_comes 232 4 5 16 S) ((md_at 232 4 5 S) + 0) ((md_comes 232 4 5 16 S) 60)) 60 0) 61)) 61 0) ((md_at 232 4 5 S) + 2) ((vp_updL (vp_updL (vp_updL (vp_updL (md_comes 232 4 5 16 S) ((md_at 232 4 5 S) + 0) ((md_comes 232 4 5 16 S) 60)) 60 0) ((md_at 232 4 5 S) + 1) ((vp_updL (vp_updL (md_comes 232 4 5 16 S) ((md_at 232 4 5 S) + 0) ((md_comes 232 4 5 16 S) 60)) 60 0) 61)) 61 0) 62)) 62 0) ((md_at 232 4 5 S) + 3) ((vp_updL (vp_updL (vp_updL (vp_updL (vp_updL (vp_updL (md_comes 232 4 5 16 S) ((md_at 232 4 5 S) + 0) ((md_comes 232 4 5 16 S) 60)) 60 0) ((md_at 232 4 5 S) + 1) ((vp_updL (vp_updL (md_comes 232 4 5 16 S) ((md_at 232 4 5 S) + 0) ((md_comes 232 4 5 16 S) 60)) 60 0) 61)) 61 0) ((md_at 232 4 5 S) + 2) ((vp_updL (vp_updL (vp_updL (vp_updL (md_comes 232 4 5 16 S) ((md_at 232 4 5 S) + 0) ((md_comes 232 4 5 16 S) 60)) 60 0) ((md_at 232 4 5 S) + 1) ((vp_updL (vp_updL (md_comes 232 4 5 16 S) ((md_at 232 4 5 S) + 0) ((md_comes 232 4 5 16 S) 60)) 60 0) 61)) 61 0) 62)) 62 0) 0))
set_option maxHeartbeats 4000000 in
set_option maxRecDepth 100000 in
theorem k_X10_endsDay (l : Launch) (G : sw_E) (h0 : Nat) (b0 : Nat) (b1 : Nat) (np : Int32) (th : Int32) (hh : Int64) (S : Nat → Int64) (P : Nat → Int64) (hc : 0 ≤ (S 232).toInt ∧ (S 232).toInt ≤ 5) : sw_M l G yX10_endsDay wsX10_endsDay ({ frames := 1, cells := 0, slots := 0, locals := 24 } : Room) [.ref h0] [(h0, .inr (10, [.ref b0, .ref b1, .int np, .int th, .long hh])), (b0, .inl (G.2.1.2, 344, .inr (.inl S))), (b1, .inl (G.2.1.2, 1032, .inr (.inl P)))] (sw_QV G (S := (Nat → Int64)) (fun (u : (Nat → Int64)) => u = f_X10_endsDay_o1 S) (fun u => [(h0, .inr (10, [.ref b0, .ref b1, .int np, .int th, .long hh])), (b0, .inl (G.2.1.2, 344, .inr (.inl u))), (b1, .inl (G.2.1.2, 1032, .inr (.inl P)))])) 0 0 := by
  refine sw_start (cc := cX10_endsDay) (maxL := 3) (ret := none) (lv := [(0, .ref h0)]) (own := RX10) (nm := "endsDay") (by decide +kernel) rfl rfl rfl rfl (Nat.le_of_ble_eq_true rfl) (fun C F T => ?_)
  have in10 : ∀ w ∈ u_ws RX10 TX10 5, w ∈ wsX10_endsDay := fun w h => List.mem_cons_of_mem _ (List.mem_append_right _ (h))
  have hb := md_at_le (b := 232) (w := 4) (most := 5) (S := S) (by decide) hc.2
  refine sw_aload_n (pc := 0) F dX10_endsDay_0 rfl 0 rfl ?_
  refine sw_sipush (pc := 1) (v := 232) F dX10_endsDay_1 rfl ?_
  refine sw_iconst (pc := 4) (v := 4) F dX10_endsDay_4 rfl ?_
  refine sw_iconst (pc := 5) (v := 5) F dX10_endsDay_5 rfl ?_
  refine sw_calli (pc := 6) (wr := []) (k' := 0) (n' := 0) F (sw_runV (R := ({ frames := 1, cells := 0, slots := 0, locals := 24 } : Room)) (q0 := 0) (na := 3) F T.2.1 T.2.2.1 (k_X10_comes_232 l G h0 b0 b1 np th hh S P (by assumption)) [0, 1, 2] rfl (by decide) gX10_endsDay_X10_comes rfl rfl rfl (by decide +kernel) ⟨Nat.le_of_ble_eq_true rfl, Nat.le_of_ble_eq_true rfl⟩ rfl rfl rfl rfl rfl (Nat.le_of_ble_eq_true rfl) dX10_endsDay_6 (Nat.le_of_ble_eq_true rfl) (Nat.le_of_ble_eq_true rfl)) [0, 1, 2] [] rfl rfl (by decide) (by decide) rfl rfl (fun r_1 u_2 h_3 => ?_)
  obtain ⟨o_4, eu_2⟩ : ∃ z, z = u_2 := ⟨_, rfl⟩; subst eu_2
  obtain ⟨e_5, e_6⟩ : r_1 = nI (md_at 232 4 5 S) ∧ o_4 = md_comes 232 4 5 16 S := h_3
  refine sw_eq (ws' := [(h0, .inr (10, [.ref b0, .ref b1, .int np, .int th, .long hh])), (b0, .inl (G.2.1.2, 344, .inr (.inl o_4))), (b1, .inl (G.2.1.2, 1032, .inr (.inl P)))]) (lv' := [(0, .ref h0)]) (st' := [.int r_1]) rfl rfl rfl ?_
  refine sw_istore_n (pc := 9) (lv' := [(1, .int r_1), (0, .ref h0)]) F T.1 dX10_endsDay_9 rfl (by decide) rfl ?_
  refine sw_iconst (pc := 10) (v := 0) F dX10_endsDay_10 rfl ?_
  refine sw_istore_n (pc := 11) (lv' := [(2, .int 0), (1, .int r_1), (0, .ref h0)]) F T.1 dX10_endsDay_11 rfl (by decide) rfl ?_
  refine sw_iload_n (pc := 12) F dX10_endsDay_12 rfl 0 rfl ?_
  refine sw_iconst (pc := 13) (v := 3) F dX10_endsDay_13 rfl ?_
  refine sw_icmp_ge (pc := 14) (tgt := 50) F dX10_endsDay_14 (by decide) (fun c => absurd c (by decide)) (fun _ => ?_)
  refine sw_aload_n (pc := 17) F dX10_endsDay_17 rfl 2 rfl ?_
  refine sw_get (pc := 18) (Cn := RX10) (T := TX10) (N := 5) (ci := 10) (v := .ref b0) F in10 0 rfl rfl 0 (by decide) rfl (List.mem_of_getElem? (i := 1) rfl) rfl dX10_endsDay_18 ?_
  refine sw_iload_n (pc := 21) F dX10_endsDay_21 rfl 1 rfl ?_
  refine sw_iload_n (pc := 22) F dX10_endsDay_22 rfl 0 rfl ?_
  refine sw_iadd (pc := 23) F dX10_endsDay_23 ?_
  refine sw_topi (fun x_7 ex_7 => ?_)
  have ix_7 : x_7 = nI ((md_at 232 4 5 S) + 0) := by rw [ex_7, e_5]; exact nI_add (md_at 232 4 5 S) 0
  refine sw_aload_n (pc := 24) F dX10_endsDay_24 rfl 2 rfl ?_
  refine sw_get (pc := 25) (Cn := RX10) (T := TX10) (N := 5) (ci := 10) (v := .ref b0) F in10 0 rfl rfl 0 (by decide) rfl (List.mem_of_getElem? (i := 1) rfl) rfl dX10_endsDay_25 ?_
  refine sw_bipush (pc := 28) (v := 60) F dX10_endsDay_28 rfl ?_
  refine sw_iload_n (pc := 30) F dX10_endsDay_30 rfl 0 rfl ?_
  refine sw_iadd (pc := 31) F dX10_endsDay_31 ?_
  refine sw_eqt (v := .int 60) (by rfl) ?_
  refine sw_lald (pc := 32) F 1 rfl (sw_in rfl) dX10_endsDay_32 ?_
  refine sw_naml (e := o_4 60) rfl (fun x_8 ex_8 => ?_)
  obtain ⟨f_9, ef_9⟩ : ∃ y : Nat → Int64, y = vp_updL o_4 ((md_at 232 4 5 S) + 0) x_8 := ⟨_, rfl⟩
  refine sw_last (pc := 33) (ws' := [(h0, .inr (10, [.ref b0, .ref b1, .int np, .int th, .long hh])), (b0, .inl (G.2.1.2, 344, .inr (.inl f_9))), (b1, .inl (G.2.1.2, 1032, .inr (.inl P)))]) F 1 rfl (by rw [ix_7]; exact vp_in_nI (by omega) (by decide)) dX10_endsDay_33 (by rw [ef_9, (show x_7.toNatClampNeg = (md_at 232 4 5 S) + 0 by rw [ix_7]; exact nI_clamp (by omega))]; rfl) ?_
  refine sw_aload_n (pc := 34) F dX10_endsDay_34 rfl 2 rfl ?_
  refine sw_get (pc := 35) (Cn := RX10) (T := TX10) (N := 5) (ci := 10) (v := .ref b0) F in10 0 rfl rfl 0 (by decide) rfl (List.mem_of_getElem? (i := 1) rfl) rfl dX10_endsDay_35 ?_
  refine sw_bipush (pc := 38) (v := 60) F dX10_endsDay_38 rfl ?_
  refine sw_iload_n (pc := 40) F dX10_endsDay_40 rfl 0 rfl ?_
  refine sw_iadd (pc := 41) F dX10_endsDay_41 ?_
  refine sw_eqt (v := .int 60) (by rfl) ?_
  refine sw_lconst (pc := 42) (v := 0) F dX10_endsDay_42 rfl ?_
  obtain ⟨f_10, ef_10⟩ : ∃ y : Nat → Int64, y = vp_updL f_9 60 0 := ⟨_, rfl⟩
  refine sw_last (pc := 43) (ws' := [(h0, .inr (10, [.ref b0, .ref b1, .int np, .int th, .long hh])), (b0, .inl (G.2.1.2, 344, .inr (.inl f_10))), (b1, .inl (G.2.1.2, 1032, .inr (.inl P)))]) F 1 rfl (sw_in rfl) dX10_endsDay_43 (by rw [ef_10]; rfl) ?_
  refine sw_iinc (pc := 44) (v := 1) (lv' := [(2, .int 1), (1, .int r_1), (0, .ref h0)]) F T.1 dX10_endsDay_44 (q := 0) rfl rfl (by decide) rfl ?_
  refine sw_goto (pc := 47) (tgt := 12) F dX10_endsDay_47 (by decide) ?_
  refine sw_iload_n (pc := 12) F dX10_endsDay_12 rfl 0 rfl ?_
  refine sw_iconst (pc := 13) (v := 3) F dX10_endsDay_13 rfl ?_
  refine sw_icmp_ge (pc := 14) (tgt := 50) F dX10_endsDay_14 (by decide) (fun c => absurd c (by decide)) (fun _ => ?_)
  refine sw_aload_n (pc := 17) F dX10_endsDay_17 rfl 2 rfl ?_
  refine sw_get (pc := 18) (Cn := RX10) (T := TX10) (N := 5) (ci := 10) (v := .ref b0) F in10 0 rfl rfl 0 (by decide) rfl (List.mem_of_getElem? (i := 1) rfl) rfl dX10_endsDay_18 ?_
  refine sw_iload_n (pc := 21) F dX10_endsDay_21 rfl 1 rfl ?_
  refine sw_iload_n (pc := 22) F dX10_endsDay_22 rfl 0 rfl ?_
  refine sw_iadd (pc := 23) F dX10_endsDay_23 ?_
  refine sw_topi (fun x_11 ex_11 => ?_)
  have ix_11 : x_11 = nI ((md_at 232 4 5 S) + 1) := by rw [ex_11, e_5]; exact nI_add (md_at 232 4 5 S) 1
  refine sw_aload_n (pc := 24) F dX10_endsDay_24 rfl 2 rfl ?_
  refine sw_get (pc := 25) (Cn := RX10) (T := TX10) (N := 5) (ci := 10) (v := .ref b0) F in10 0 rfl rfl 0 (by decide) rfl (List.mem_of_getElem? (i := 1) rfl) rfl dX10_endsDay_25 ?_
  refine sw_bipush (pc := 28) (v := 60) F dX10_endsDay_28 rfl ?_
  refine sw_iload_n (pc := 30) F dX10_endsDay_30 rfl 0 rfl ?_
  refine sw_iadd (pc := 31) F dX10_endsDay_31 ?_
  refine sw_eqt (v := .int 61) (by rfl) ?_
  refine sw_lald (pc := 32) F 1 rfl (sw_in rfl) dX10_endsDay_32 ?_
  refine sw_naml (e := f_10 61) rfl (fun x_12 ex_12 => ?_)
  obtain ⟨f_13, ef_13⟩ : ∃ y : Nat → Int64, y = vp_updL f_10 ((md_at 232 4 5 S) + 1) x_12 := ⟨_, rfl⟩
  refine sw_last (pc := 33) (ws' := [(h0, .inr (10, [.ref b0, .ref b1, .int np, .int th, .long hh])), (b0, .inl (G.2.1.2, 344, .inr (.inl f_13))), (b1, .inl (G.2.1.2, 1032, .inr (.inl P)))]) F 1 rfl (by rw [ix_11]; exact vp_in_nI (by omega) (by decide)) dX10_endsDay_33 (by rw [ef_13, (show x_11.toNatClampNeg = (md_at 232 4 5 S) + 1 by rw [ix_11]; exact nI_clamp (by omega))]; rfl) ?_
  refine sw_aload_n (pc := 34) F dX10_endsDay_34 rfl 2 rfl ?_
  refine sw_get (pc := 35) (Cn := RX10) (T := TX10) (N := 5) (ci := 10) (v := .ref b0) F in10 0 rfl rfl 0 (by decide) rfl (List.mem_of_getElem? (i := 1) rfl) rfl dX10_endsDay_35 ?_
  refine sw_bipush (pc := 38) (v := 60) F dX10_endsDay_38 rfl ?_
  refine sw_iload_n (pc := 40) F dX10_endsDay_40 rfl 0 rfl ?_
  refine sw_iadd (pc := 41) F dX10_endsDay_41 ?_
  refine sw_eqt (v := .int 61) (by rfl) ?_
  refine sw_lconst (pc := 42) (v := 0) F dX10_endsDay_42 rfl ?_
  obtain ⟨f_14, ef_14⟩ : ∃ y : Nat → Int64, y = vp_updL f_13 61 0 := ⟨_, rfl⟩
  refine sw_last (pc := 43) (ws' := [(h0, .inr (10, [.ref b0, .ref b1, .int np, .int th, .long hh])), (b0, .inl (G.2.1.2, 344, .inr (.inl f_14))), (b1, .inl (G.2.1.2, 1032, .inr (.inl P)))]) F 1 rfl (sw_in rfl) dX10_endsDay_43 (by rw [ef_14]; rfl) ?_
  refine sw_iinc (pc := 44) (v := 2) (lv' := [(2, .int 2), (1, .int r_1), (0, .ref h0)]) F T.1 dX10_endsDay_44 (q := 0) rfl rfl (by decide) rfl ?_
  refine sw_goto (pc := 47) (tgt := 12) F dX10_endsDay_47 (by decide) ?_
  refine sw_iload_n (pc := 12) F dX10_endsDay_12 rfl 0 rfl ?_
  refine sw_iconst (pc := 13) (v := 3) F dX10_endsDay_13 rfl ?_
  refine sw_icmp_ge (pc := 14) (tgt := 50) F dX10_endsDay_14 (by decide) (fun c => absurd c (by decide)) (fun _ => ?_)
  refine sw_aload_n (pc := 17) F dX10_endsDay_17 rfl 2 rfl ?_
  refine sw_get (pc := 18) (Cn := RX10) (T := TX10) (N := 5) (ci := 10) (v := .ref b0) F in10 0 rfl rfl 0 (by decide) rfl (List.mem_of_getElem? (i := 1) rfl) rfl dX10_endsDay_18 ?_
  refine sw_iload_n (pc := 21) F dX10_endsDay_21 rfl 1 rfl ?_
  refine sw_iload_n (pc := 22) F dX10_endsDay_22 rfl 0 rfl ?_
  refine sw_iadd (pc := 23) F dX10_endsDay_23 ?_
  refine sw_topi (fun x_15 ex_15 => ?_)
  have ix_15 : x_15 = nI ((md_at 232 4 5 S) + 2) := by rw [ex_15, e_5]; exact nI_add (md_at 232 4 5 S) 2
  refine sw_aload_n (pc := 24) F dX10_endsDay_24 rfl 2 rfl ?_
  refine sw_get (pc := 25) (Cn := RX10) (T := TX10) (N := 5) (ci := 10) (v := .ref b0) F in10 0 rfl rfl 0 (by decide) rfl (List.mem_of_getElem? (i := 1) rfl) rfl dX10_endsDay_25 ?_
  refine sw_bipush (pc := 28) (v := 60) F dX10_endsDay_28 rfl ?_
  refine sw_iload_n (pc := 30) F dX10_endsDay_30 rfl 0 rfl ?_
  refine sw_iadd (pc := 31) F dX10_endsDay_31 ?_
  refine sw_eqt (v := .int 62) (by rfl) ?_
  refine sw_lald (pc := 32) F 1 rfl (sw_in rfl) dX10_endsDay_32 ?_
  refine sw_naml (e := f_14 62) rfl (fun x_16 ex_16 => ?_)
  obtain ⟨f_17, ef_17⟩ : ∃ y : Nat → Int64, y = vp_updL f_14 ((md_at 232 4 5 S) + 2) x_16 := ⟨_, rfl⟩
  refine sw_last (pc := 33) (ws' := [(h0, .inr (10, [.ref b0, .ref b1, .int np, .int th, .long hh])), (b0, .inl (G.2.1.2, 344, .inr (.inl f_17))), (b1, .inl (G.2.1.2, 1032, .inr (.inl P)))]) F 1 rfl (by rw [ix_15]; exact vp_in_nI (by omega) (by decide)) dX10_endsDay_33 (by rw [ef_17, (show x_15.toNatClampNeg = (md_at 232 4 5 S) + 2 by rw [ix_15]; exact nI_clamp (by omega))]; rfl) ?_
  refine sw_aload_n (pc := 34) F dX10_endsDay_34 rfl 2 rfl ?_
  refine sw_get (pc := 35) (Cn := RX10) (T := TX10) (N := 5) (ci := 10) (v := .ref b0) F in10 0 rfl rfl 0 (by decide) rfl (List.mem_of_getElem? (i := 1) rfl) rfl dX10_endsDay_35 ?_
  refine sw_bipush (pc := 38) (v := 60) F dX10_endsDay_38 rfl ?_
  refine sw_iload_n (pc := 40) F dX10_endsDay_40 rfl 0 rfl ?_
  refine sw_iadd (pc := 41) F dX10_endsDay_41 ?_
  refine sw_eqt (v := .int 62) (by rfl) ?_
  refine sw_lconst (pc := 42) (v := 0) F dX10_endsDay_42 rfl ?_
  obtain ⟨f_18, ef_18⟩ : ∃ y : Nat → Int64, y = vp_updL f_17 62 0 := ⟨_, rfl⟩
  refine sw_last (pc := 43) (ws' := [(h0, .inr (10, [.ref b0, .ref b1, .int np, .int th, .long hh])), (b0, .inl (G.2.1.2, 344, .inr (.inl f_18))), (b1, .inl (G.2.1.2, 1032, .inr (.inl P)))]) F 1 rfl (sw_in rfl) dX10_endsDay_43 (by rw [ef_18]; rfl) ?_
  refine sw_iinc (pc := 44) (v := 3) (lv' := [(2, .int 3), (1, .int r_1), (0, .ref h0)]) F T.1 dX10_endsDay_44 (q := 0) rfl rfl (by decide) rfl ?_
  refine sw_goto (pc := 47) (tgt := 12) F dX10_endsDay_47 (by decide) ?_
  refine sw_iload_n (pc := 12) F dX10_endsDay_12 rfl 0 rfl ?_
  refine sw_iconst (pc := 13) (v := 3) F dX10_endsDay_13 rfl ?_
  refine sw_icmp_ge (pc := 14) (tgt := 50) F dX10_endsDay_14 (by decide) (fun _ => ?_) (fun c => absurd c (by decide))
  refine sw_aload_n (pc := 50) F dX10_endsDay_50 rfl 2 rfl ?_
  refine sw_get (pc := 51) (Cn := RX10) (T := TX10) (N := 5) (ci := 10) (v := .ref b0) F in10 0 rfl rfl 0 (by decide) rfl (List.mem_of_getElem? (i := 1) rfl) rfl dX10_endsDay_51 ?_
  refine sw_iload_n (pc := 54) F dX10_endsDay_54 rfl 1 rfl ?_
  refine sw_iconst (pc := 55) (v := 3) F dX10_endsDay_55 rfl ?_
  refine sw_iadd (pc := 56) F dX10_endsDay_56 ?_
  refine sw_topi (fun x_19 ex_19 => ?_)
  have ix_19 : x_19 = nI ((md_at 232 4 5 S) + 3) := by rw [ex_19, e_5]; exact nI_add (md_at 232 4 5 S) 3
  refine sw_aload_n (pc := 57) F dX10_endsDay_57 rfl 2 rfl ?_
  refine sw_get (pc := 58) (Cn := RX10) (T := TX10) (N := 5) (ci := 10) (v := .ref b0) F in10 0 rfl rfl 0 (by decide) rfl (List.mem_of_getElem? (i := 1) rfl) rfl dX10_endsDay_58 ?_
  refine sw_iconst (pc := 61) (v := 0) F dX10_endsDay_61 rfl ?_
  refine sw_lald (pc := 62) F 1 rfl (sw_in rfl) dX10_endsDay_62 ?_
  refine sw_naml (e := f_18 0) rfl (fun x_20 ex_20 => ?_)
  obtain ⟨f_21, ef_21⟩ : ∃ y : Nat → Int64, y = vp_updL f_18 ((md_at 232 4 5 S) + 3) x_20 := ⟨_, rfl⟩
  refine sw_last (pc := 63) (ws' := [(h0, .inr (10, [.ref b0, .ref b1, .int np, .int th, .long hh])), (b0, .inl (G.2.1.2, 344, .inr (.inl f_21))), (b1, .inl (G.2.1.2, 1032, .inr (.inl P)))]) F 1 rfl (by rw [ix_19]; exact vp_in_nI (by omega) (by decide)) dX10_endsDay_63 (by rw [ef_21, (show x_19.toNatClampNeg = (md_at 232 4 5 S) + 3 by rw [ix_19]; exact nI_clamp (by omega))]; rfl) ?_
  subst ef_21
  subst ex_20
  subst ex_19
  subst ef_18
  subst ef_17
  subst ex_16
  subst ex_15
  subst ef_14
  subst ef_13
  subst ex_12
  subst ex_11
  subst ef_10
  subst ef_9
  subst ex_8
  subst ex_7
  subst e_6
  subst e_5
  exact sw_vret (pc := 64) F T ((vp_updL (vp_updL (vp_updL (vp_updL (vp_updL (vp_updL (vp_updL (md_comes 232 4 5 16 S) ((md_at 232 4 5 S) + 0) ((md_comes 232 4 5 16 S) 60)) 60 0) ((md_at 232 4 5 S) + 1) ((vp_updL (vp_updL (md_comes 232 4 5 16 S) ((md_at 232 4 5 S) + 0) ((md_comes 232 4 5 16 S) 60)) 60 0) 61)) 61 0) ((md_at 232 4 5 S) + 2) ((vp_updL (vp_updL (vp_updL (vp_updL (md_comes 232 4 5 16 S) ((md_at 232 4 5 S) + 0) ((md_comes 232 4 5 16 S) 60)) 60 0) ((md_at 232 4 5 S) + 1) ((vp_updL (vp_updL (md_comes 232 4 5 16 S) ((md_at 232 4 5 S) + 0) ((md_comes 232 4 5 16 S) 60)) 60 0) 61)) 61 0) 62)) 62 0) ((md_at 232 4 5 S) + 3) ((vp_updL (vp_updL (vp_updL (vp_updL (vp_updL (vp_updL (md_comes 232 4 5 16 S) ((md_at 232 4 5 S) + 0) ((md_comes 232 4 5 16 S) 60)) 60 0) ((md_at 232 4 5 S) + 1) ((vp_updL (vp_updL (md_comes 232 4 5 16 S) ((md_at 232 4 5 S) + 0) ((md_comes 232 4 5 16 S) 60)) 60 0) 61)) 61 0) ((md_at 232 4 5 S) + 2) ((vp_updL (vp_updL (vp_updL (vp_updL (md_comes 232 4 5 16 S) ((md_at 232 4 5 S) + 0) ((md_comes 232 4 5 16 S) 60)) 60 0) ((md_at 232 4 5 S) + 1) ((vp_updL (vp_updL (md_comes 232 4 5 16 S) ((md_at 232 4 5 S) + 0) ((md_comes 232 4 5 16 S) 60)) 60 0) 61)) 61 0) 62)) 62 0) 0))) rfl rfl dX10_endsDay_64
def g_X10_endsHour_0  (S : Nat → Int64) : Nat → Int64 := (vp_updL (vp_updL (md_comes 63 7 24 161 S) (md_at 63 7 24 S) ((md_comes 63 7 24 161 S) 50)) ((md_at 63 7 24 S) + 1) ((vp_updL (md_comes 63 7 24 161 S) (md_at 63 7 24 S) ((md_comes 63 7 24 161 S) 50)) 52))
def g_X10_endsHour_1 (S : Nat → Int64) (S1 : Nat → Int64) : Nat → Int64 := if (S1 52) ≤ 0 then ((vp_updL S1 (((md_at 63 7 24 S) + 2) + 0) (f_X10_floor_r (S1 56) (S1 59)))) else ((vp_updL S1 (((md_at 63 7 24 S) + 2) + 0) (f_X10_floor_r (S1 53) (S1 52))))
def g_X10_endsHour_2 (S : Nat → Int64) (S2 : Nat → Int64) : Nat → Int64 := if (S2 52) ≤ 0 then ((vp_updL S2 (((md_at 63 7 24 S) + 2) + 1) (f_X10_floor_r (S2 57) (S2 59)))) else ((vp_updL S2 (((md_at 63 7 24 S) + 2) + 1) (f_X10_floor_r (S2 54) (S2 52))))
def g_X10_endsHour_3 (S : Nat → Int64) (S3 : Nat → Int64) : Nat → Int64 := if (S3 52) ≤ 0 then ((vp_updL S3 (((md_at 63 7 24 S) + 2) + 2) (f_X10_floor_r (S3 58) (S3 59)))) else ((vp_updL S3 (((md_at 63 7 24 S) + 2) + 2) (f_X10_floor_r (S3 55) (S3 52))))
def g_X10_endsHour_4  (S4 : Nat → Int64) : Nat → Int64 := S4
def g_X10_endsHour_5 (S : Nat → Int64) (S5 : Nat → Int64) : Nat → Int64 := if ((((vp_updL (vp_updL (vp_updL (vp_updL (vp_updL (vp_updL (vp_updL (vp_updL (vp_updL (vp_updL (vp_updL (vp_updL (vp_updL (vp_updL (vp_updL S5 ((md_at 63 7 24 S) + 5) (S5 51)) ((md_at 63 7 24 S) + 6) ((vp_updL S5 ((md_at 63 7 24 S) + 5) (S5 51)) 0)) 60 (((vp_updL (vp_updL S5 ((md_at 63 7 24 S) + 5) (S5 51)) ((md_at 63 7 24 S) + 6) ((vp_updL S5 ((md_at 63 7 24 S) + 5) (S5 51)) 0)) 60) + ((vp_updL (vp_updL S5 ((md_at 63 7 24 S) + 5) (S5 51)) ((md_at 63 7 24 S) + 6) ((vp_updL S5 ((md_at 63 7 24 S) + 5) (S5 51)) 0)) 50))) 61 (((vp_updL (vp_updL (vp_updL S5 ((md_at 63 7 24 S) + 5) (S5 51)) ((md_at 63 7 24 S) + 6) ((vp_updL S5 ((md_at 63 7 24 S) + 5) (S5 51)) 0)) 60 (((vp_updL (vp_updL S5 ((md_at 63 7 24 S) + 5) (S5 51)) ((md_at 63 7 24 S) + 6) ((vp_updL S5 ((md_at 63 7 24 S) + 5) (S5 51)) 0)) 60) + ((vp_updL (vp_updL S5 ((md_at 63 7 24 S) + 5) (S5 51)) ((md_at 63 7 24 S) + 6) ((vp_updL S5 ((md_at 63 7 24 S) + 5) (S5 51)) 0)) 50))) 61) + ((vp_updL (vp_updL (vp_updL S5 ((md_at 63 7 24 S) + 5) (S5 51)) ((md_at 63 7 24 S) + 6) ((vp_updL S5 ((md_at 63 7 24 S) + 5) (S5 51)) 0)) 60 (((vp_updL (vp_updL S5 ((md_at 63 7 24 S) + 5) (S5 51)) ((md_at 63 7 24 S) + 6) ((vp_updL S5 ((md_at 63 7 24 S) + 5) (S5 51)) 0)) 60) + ((vp_updL (vp_updL S5 ((md_at 63 7 24 S) + 5) (S5 51)) ((md_at 63 7 24 S) + 6) ((vp_updL S5 ((md_at 63 7 24 S) + 5) (S5 51)) 0)) 50))) 52))) 62 (((vp_updL (vp_updL (vp_updL (vp_updL S5 ((md_at 63 7 24 S) + 5) (S5 51)) ((md_at 63 7 24 S) + 6) ((vp_updL S5 ((md_at 63 7 24 S) + 5) (S5 51)) 0)) 60 (((vp_updL (vp_updL S5 ((md_at 63 7 24 S) + 5) (S5 51)) ((md_at 63 7 24 S) + 6) ((vp_updL S5 ((md_at 63 7 24 S) + 5) (S5 51)) 0)) 60) + ((vp_updL (vp_updL S5 ((md_at 63 7 24 S) + 5) (S5 51)) ((md_at 63 7 24 S) + 6) ((vp_updL S5 ((md_at 63 7 24 S) + 5) (S5 51)) 0)) 50))) 61 (((vp_updL (vp_updL (vp_updL S5 ((md_at 63 7 24 S) + 5) (S5 51)) ((md_at 63 7 24 S) + 6) ((vp_updL S5 ((md_at 63 7 24 S) + 5) (S5 51)) 0)) 60 (((vp_updL (vp_updL S5 ((md_at 63 7 24 S) + 5) (S5 51)) ((md_at 63 7 24 S) + 6) ((vp_updL S5 ((md_at 63 7 24 S) + 5) (S5 51)) 0)) 60) + ((vp_updL (vp_updL S5 ((md_at 63 7 24 S) + 5) (S5 51)) ((md_at 63 7 24 S) + 6) ((vp_updL S5 ((md_at 63 7 24 S) + 5) (S5 51)) 0)) 50))) 61) + ((vp_updL (vp_updL (vp_updL S5 ((md_at 63 7 24 S) + 5) (S5 51)) ((md_at 63 7 24 S) + 6) ((vp_updL S5 ((md_at 63 7 24 S) + 5) (S5 51)) 0)) 60 (((vp_updL (vp_updL S5 ((md_at 63 7 24 S) + 5) (S5 51)) ((md_at 63 7 24 S) + 6) ((vp_updL S5 ((md_at 63 7 24 S) + 5) (S5 51)) 0)) 60) + ((vp_updL (vp_updL S5 ((md_at 63 7 24 S) + 5) (S5 51)) ((md_at 63 7 24 S) + 6) ((vp_updL S5 ((md_at 63 7 24 S) + 5) (S5 51)) 0)) 50))) 52))) 62) + 1)) 50 0) 51 0) 52 0) 53 0) 54 0) 55 0) 56 0) 57 0) 58 0) 59 0) 0) / 3600) - (((vp_updL (vp_updL (vp_updL (vp_updL (vp_updL (vp_updL (vp_updL (vp_updL (vp_updL (vp_updL (vp_updL (vp_updL (vp_updL (vp_updL (vp_updL S5 ((md_at 63 7 24 S) + 5) (S5 51)) ((md_at 63 7 24 S) + 6) ((vp_updL S5 ((md_at 63 7 24 S) + 5) (S5 51)) 0)) 60 (((vp_updL (vp_updL S5 ((md_at 63 7 24 S) + 5) (S5 51)) ((md_at 63 7 24 S) + 6) ((vp_updL S5 ((md_at 63 7 24 S) + 5) (S5 51)) 0)) 60) + ((vp_updL (vp_updL S5 ((md_at 63 7 24 S) + 5) (S5 51)) ((md_at 63 7 24 S) + 6) ((vp_updL S5 ((md_at 63 7 24 S) + 5) (S5 51)) 0)) 50))) 61 (((vp_updL (vp_updL (vp_updL S5 ((md_at 63 7 24 S) + 5) (S5 51)) ((md_at 63 7 24 S) + 6) ((vp_updL S5 ((md_at 63 7 24 S) + 5) (S5 51)) 0)) 60 (((vp_updL (vp_updL S5 ((md_at 63 7 24 S) + 5) (S5 51)) ((md_at 63 7 24 S) + 6) ((vp_updL S5 ((md_at 63 7 24 S) + 5) (S5 51)) 0)) 60) + ((vp_updL (vp_updL S5 ((md_at 63 7 24 S) + 5) (S5 51)) ((md_at 63 7 24 S) + 6) ((vp_updL S5 ((md_at 63 7 24 S) + 5) (S5 51)) 0)) 50))) 61) + ((vp_updL (vp_updL (vp_updL S5 ((md_at 63 7 24 S) + 5) (S5 51)) ((md_at 63 7 24 S) + 6) ((vp_updL S5 ((md_at 63 7 24 S) + 5) (S5 51)) 0)) 60 (((vp_updL (vp_updL S5 ((md_at 63 7 24 S) + 5) (S5 51)) ((md_at 63 7 24 S) + 6) ((vp_updL S5 ((md_at 63 7 24 S) + 5) (S5 51)) 0)) 60) + ((vp_updL (vp_updL S5 ((md_at 63 7 24 S) + 5) (S5 51)) ((md_at 63 7 24 S) + 6) ((vp_updL S5 ((md_at 63 7 24 S) + 5) (S5 51)) 0)) 50))) 52))) 62 (((vp_updL (vp_updL (vp_updL (vp_updL S5 ((md_at 63 7 24 S) + 5) (S5 51)) ((md_at 63 7 24 S) + 6) ((vp_updL S5 ((md_at 63 7 24 S) + 5) (S5 51)) 0)) 60 (((vp_updL (vp_updL S5 ((md_at 63 7 24 S) + 5) (S5 51)) ((md_at 63 7 24 S) + 6) ((vp_updL S5 ((md_at 63 7 24 S) + 5) (S5 51)) 0)) 60) + ((vp_updL (vp_updL S5 ((md_at 63 7 24 S) + 5) (S5 51)) ((md_at 63 7 24 S) + 6) ((vp_updL S5 ((md_at 63 7 24 S) + 5) (S5 51)) 0)) 50))) 61 (((vp_updL (vp_updL (vp_updL S5 ((md_at 63 7 24 S) + 5) (S5 51)) ((md_at 63 7 24 S) + 6) ((vp_updL S5 ((md_at 63 7 24 S) + 5) (S5 51)) 0)) 60 (((vp_updL (vp_updL S5 ((md_at 63 7 24 S) + 5) (S5 51)) ((md_at 63 7 24 S) + 6) ((vp_updL S5 ((md_at 63 7 24 S) + 5) (S5 51)) 0)) 60) + ((vp_updL (vp_updL S5 ((md_at 63 7 24 S) + 5) (S5 51)) ((md_at 63 7 24 S) + 6) ((vp_updL S5 ((md_at 63 7 24 S) + 5) (S5 51)) 0)) 50))) 61) + ((vp_updL (vp_updL (vp_updL S5 ((md_at 63 7 24 S) + 5) (S5 51)) ((md_at 63 7 24 S) + 6) ((vp_updL S5 ((md_at 63 7 24 S) + 5) (S5 51)) 0)) 60 (((vp_updL (vp_updL S5 ((md_at 63 7 24 S) + 5) (S5 51)) ((md_at 63 7 24 S) + 6) ((vp_updL S5 ((md_at 63 7 24 S) + 5) (S5 51)) 0)) 60) + ((vp_updL (vp_updL S5 ((md_at 63 7 24 S) + 5) (S5 51)) ((md_at 63 7 24 S) + 6) ((vp_updL S5 ((md_at 63 7 24 S) + 5) (S5 51)) 0)) 50))) 52))) 62) + 1)) 50 0) 51 0) 52 0) 53 0) 54 0) 55 0) 56 0) 57 0) 58 0) 59 0) 0) / 3600) / 24 * 24) = ((vp_updL (vp_updL (vp_updL (vp_updL (vp_updL (vp_updL (vp_updL (vp_updL (vp_updL (vp_updL (vp_updL (vp_updL (vp_updL (vp_updL (vp_updL S5 ((md_at 63 7 24 S) + 5) (S5 51)) ((md_at 63 7 24 S) + 6) ((vp_updL S5 ((md_at 63 7 24 S) + 5) (S5 51)) 0)) 60 (((vp_updL (vp_updL S5 ((md_at 63 7 24 S) + 5) (S5 51)) ((md_at 63 7 24 S) + 6) ((vp_updL S5 ((md_at 63 7 24 S) + 5) (S5 51)) 0)) 60) + ((vp_updL (vp_updL S5 ((md_at 63 7 24 S) + 5) (S5 51)) ((md_at 63 7 24 S) + 6) ((vp_updL S5 ((md_at 63 7 24 S) + 5) (S5 51)) 0)) 50))) 61 (((vp_updL (vp_updL (vp_updL S5 ((md_at 63 7 24 S) + 5) (S5 51)) ((md_at 63 7 24 S) + 6) ((vp_updL S5 ((md_at 63 7 24 S) + 5) (S5 51)) 0)) 60 (((vp_updL (vp_updL S5 ((md_at 63 7 24 S) + 5) (S5 51)) ((md_at 63 7 24 S) + 6) ((vp_updL S5 ((md_at 63 7 24 S) + 5) (S5 51)) 0)) 60) + ((vp_updL (vp_updL S5 ((md_at 63 7 24 S) + 5) (S5 51)) ((md_at 63 7 24 S) + 6) ((vp_updL S5 ((md_at 63 7 24 S) + 5) (S5 51)) 0)) 50))) 61) + ((vp_updL (vp_updL (vp_updL S5 ((md_at 63 7 24 S) + 5) (S5 51)) ((md_at 63 7 24 S) + 6) ((vp_updL S5 ((md_at 63 7 24 S) + 5) (S5 51)) 0)) 60 (((vp_updL (vp_updL S5 ((md_at 63 7 24 S) + 5) (S5 51)) ((md_at 63 7 24 S) + 6) ((vp_updL S5 ((md_at 63 7 24 S) + 5) (S5 51)) 0)) 60) + ((vp_updL (vp_updL S5 ((md_at 63 7 24 S) + 5) (S5 51)) ((md_at 63 7 24 S) + 6) ((vp_updL S5 ((md_at 63 7 24 S) + 5) (S5 51)) 0)) 50))) 52))) 62 (((vp_updL (vp_updL (vp_updL (vp_updL S5 ((md_at 63 7 24 S) + 5) (S5 51)) ((md_at 63 7 24 S) + 6) ((vp_updL S5 ((md_at 63 7 24 S) + 5) (S5 51)) 0)) 60 (((vp_updL (vp_updL S5 ((md_at 63 7 24 S) + 5) (S5 51)) ((md_at 63 7 24 S) + 6) ((vp_updL S5 ((md_at 63 7 24 S) + 5) (S5 51)) 0)) 60) + ((vp_updL (vp_updL S5 ((md_at 63 7 24 S) + 5) (S5 51)) ((md_at 63 7 24 S) + 6) ((vp_updL S5 ((md_at 63 7 24 S) + 5) (S5 51)) 0)) 50))) 61 (((vp_updL (vp_updL (vp_updL S5 ((md_at 63 7 24 S) + 5) (S5 51)) ((md_at 63 7 24 S) + 6) ((vp_updL S5 ((md_at 63 7 24 S) + 5) (S5 51)) 0)) 60 (((vp_updL (vp_updL S5 ((md_at 63 7 24 S) + 5) (S5 51)) ((md_at 63 7 24 S) + 6) ((vp_updL S5 ((md_at 63 7 24 S) + 5) (S5 51)) 0)) 60) + ((vp_updL (vp_updL S5 ((md_at 63 7 24 S) + 5) (S5 51)) ((md_at 63 7 24 S) + 6) ((vp_updL S5 ((md_at 63 7 24 S) + 5) (S5 51)) 0)) 50))) 61) + ((vp_updL (vp_updL (vp_updL S5 ((md_at 63 7 24 S) + 5) (S5 51)) ((md_at 63 7 24 S) + 6) ((vp_updL S5 ((md_at 63 7 24 S) + 5) (S5 51)) 0)) 60 (((vp_updL (vp_updL S5 ((md_at 63 7 24 S) + 5) (S5 51)) ((md_at 63 7 24 S) + 6) ((vp_updL S5 ((md_at 63 7 24 S) + 5) (S5 51)) 0)) 60) + ((vp_updL (vp_updL S5 ((md_at 63 7 24 S) + 5) (S5 51)) ((md_at 63 7 24 S) + 6) ((vp_updL S5 ((md_at 63 7 24 S) + 5) (S5 51)) 0)) 50))) 52))) 62) + 1)) 50 0) 51 0) 52 0) 53 0) 54 0) 55 0) 56 0) 57 0) 58 0) 59 0) 5) then ((f_X10_endsDay_o1 (vp_updL (vp_updL (vp_updL (vp_updL (vp_updL (vp_updL (vp_updL (vp_updL (vp_updL (vp_updL (vp_updL (vp_updL (vp_updL (vp_updL (vp_updL S5 ((md_at 63 7 24 S) + 5) (S5 51)) ((md_at 63 7 24 S) + 6) ((vp_updL S5 ((md_at 63 7 24 S) + 5) (S5 51)) 0)) 60 (((vp_updL (vp_updL S5 ((md_at 63 7 24 S) + 5) (S5 51)) ((md_at 63 7 24 S) + 6) ((vp_updL S5 ((md_at 63 7 24 S) + 5) (S5 51)) 0)) 60) + ((vp_updL (vp_updL S5 ((md_at 63 7 24 S) + 5) (S5 51)) ((md_at 63 7 24 S) + 6) ((vp_updL S5 ((md_at 63 7 24 S) + 5) (S5 51)) 0)) 50))) 61 (((vp_updL (vp_updL (vp_updL S5 ((md_at 63 7 24 S) + 5) (S5 51)) ((md_at 63 7 24 S) + 6) ((vp_updL S5 ((md_at 63 7 24 S) + 5) (S5 51)) 0)) 60 (((vp_updL (vp_updL S5 ((md_at 63 7 24 S) + 5) (S5 51)) ((md_at 63 7 24 S) + 6) ((vp_updL S5 ((md_at 63 7 24 S) + 5) (S5 51)) 0)) 60) + ((vp_updL (vp_updL S5 ((md_at 63 7 24 S) + 5) (S5 51)) ((md_at 63 7 24 S) + 6) ((vp_updL S5 ((md_at 63 7 24 S) + 5) (S5 51)) 0)) 50))) 61) + ((vp_updL (vp_updL (vp_updL S5 ((md_at 63 7 24 S) + 5) (S5 51)) ((md_at 63 7 24 S) + 6) ((vp_updL S5 ((md_at 63 7 24 S) + 5) (S5 51)) 0)) 60 (((vp_updL (vp_updL S5 ((md_at 63 7 24 S) + 5) (S5 51)) ((md_at 63 7 24 S) + 6) ((vp_updL S5 ((md_at 63 7 24 S) + 5) (S5 51)) 0)) 60) + ((vp_updL (vp_updL S5 ((md_at 63 7 24 S) + 5) (S5 51)) ((md_at 63 7 24 S) + 6) ((vp_updL S5 ((md_at 63 7 24 S) + 5) (S5 51)) 0)) 50))) 52))) 62 (((vp_updL (vp_updL (vp_updL (vp_updL S5 ((md_at 63 7 24 S) + 5) (S5 51)) ((md_at 63 7 24 S) + 6) ((vp_updL S5 ((md_at 63 7 24 S) + 5) (S5 51)) 0)) 60 (((vp_updL (vp_updL S5 ((md_at 63 7 24 S) + 5) (S5 51)) ((md_at 63 7 24 S) + 6) ((vp_updL S5 ((md_at 63 7 24 S) + 5) (S5 51)) 0)) 60) + ((vp_updL (vp_updL S5 ((md_at 63 7 24 S) + 5) (S5 51)) ((md_at 63 7 24 S) + 6) ((vp_updL S5 ((md_at 63 7 24 S) + 5) (S5 51)) 0)) 50))) 61 (((vp_updL (vp_updL (vp_updL S5 ((md_at 63 7 24 S) + 5) (S5 51)) ((md_at 63 7 24 S) + 6) ((vp_updL S5 ((md_at 63 7 24 S) + 5) (S5 51)) 0)) 60 (((vp_updL (vp_updL S5 ((md_at 63 7 24 S) + 5) (S5 51)) ((md_at 63 7 24 S) + 6) ((vp_updL S5 ((md_at 63 7 24 S) + 5) (S5 51)) 0)) 60) + ((vp_updL (vp_updL S5 ((md_at 63 7 24 S) + 5) (S5 51)) ((md_at 63 7 24 S) + 6) ((vp_updL S5 ((md_at 63 7 24 S) + 5) (S5 51)) 0)) 50))) 61) + ((vp_updL (vp_updL (vp_updL S5 ((md_at 63 7 24 S) + 5) (S5 51)) ((md_at 63 7 24 S) + 6) ((vp_updL S5 ((md_at 63 7 24 S) + 5) (S5 51)) 0)) 60 (((vp_updL (vp_updL S5 ((md_at 63 7 24 S) + 5) (S5 51)) ((md_at 63 7 24 S) + 6) ((vp_updL S5 ((md_at 63 7 24 S) + 5) (S5 51)) 0)) 60) + ((vp_updL (vp_updL S5 ((md_at 63 7 24 S) + 5) (S5 51)) ((md_at 63 7 24 S) + 6) ((vp_updL S5 ((md_at 63 7 24 S) + 5) (S5 51)) 0)) 50))) 52))) 62) + 1)) 50 0) 51 0) 52 0) 53 0) 54 0) 55 0) 56 0) 57 0) 58 0) 59 0))) else ((vp_updL (vp_updL (vp_updL (vp_updL (vp_updL (vp_updL (vp_updL (vp_updL (vp_updL (vp_updL (vp_updL (vp_updL (vp_updL (vp_updL (vp_updL S5 ((md_at 63 7 24 S) + 5) (S5 51)) ((md_at 63 7 24 S) + 6) ((vp_updL S5 ((md_at 63 7 24 S) + 5) (S5 51)) 0)) 60 (((vp_updL (vp_updL S5 ((md_at 63 7 24 S) + 5) (S5 51)) ((md_at 63 7 24 S) + 6) ((vp_updL S5 ((md_at 63 7 24 S) + 5) (S5 51)) 0)) 60) + ((vp_updL (vp_updL S5 ((md_at 63 7 24 S) + 5) (S5 51)) ((md_at 63 7 24 S) + 6) ((vp_updL S5 ((md_at 63 7 24 S) + 5) (S5 51)) 0)) 50))) 61 (((vp_updL (vp_updL (vp_updL S5 ((md_at 63 7 24 S) + 5) (S5 51)) ((md_at 63 7 24 S) + 6) ((vp_updL S5 ((md_at 63 7 24 S) + 5) (S5 51)) 0)) 60 (((vp_updL (vp_updL S5 ((md_at 63 7 24 S) + 5) (S5 51)) ((md_at 63 7 24 S) + 6) ((vp_updL S5 ((md_at 63 7 24 S) + 5) (S5 51)) 0)) 60) + ((vp_updL (vp_updL S5 ((md_at 63 7 24 S) + 5) (S5 51)) ((md_at 63 7 24 S) + 6) ((vp_updL S5 ((md_at 63 7 24 S) + 5) (S5 51)) 0)) 50))) 61) + ((vp_updL (vp_updL (vp_updL S5 ((md_at 63 7 24 S) + 5) (S5 51)) ((md_at 63 7 24 S) + 6) ((vp_updL S5 ((md_at 63 7 24 S) + 5) (S5 51)) 0)) 60 (((vp_updL (vp_updL S5 ((md_at 63 7 24 S) + 5) (S5 51)) ((md_at 63 7 24 S) + 6) ((vp_updL S5 ((md_at 63 7 24 S) + 5) (S5 51)) 0)) 60) + ((vp_updL (vp_updL S5 ((md_at 63 7 24 S) + 5) (S5 51)) ((md_at 63 7 24 S) + 6) ((vp_updL S5 ((md_at 63 7 24 S) + 5) (S5 51)) 0)) 50))) 52))) 62 (((vp_updL (vp_updL (vp_updL (vp_updL S5 ((md_at 63 7 24 S) + 5) (S5 51)) ((md_at 63 7 24 S) + 6) ((vp_updL S5 ((md_at 63 7 24 S) + 5) (S5 51)) 0)) 60 (((vp_updL (vp_updL S5 ((md_at 63 7 24 S) + 5) (S5 51)) ((md_at 63 7 24 S) + 6) ((vp_updL S5 ((md_at 63 7 24 S) + 5) (S5 51)) 0)) 60) + ((vp_updL (vp_updL S5 ((md_at 63 7 24 S) + 5) (S5 51)) ((md_at 63 7 24 S) + 6) ((vp_updL S5 ((md_at 63 7 24 S) + 5) (S5 51)) 0)) 50))) 61 (((vp_updL (vp_updL (vp_updL S5 ((md_at 63 7 24 S) + 5) (S5 51)) ((md_at 63 7 24 S) + 6) ((vp_updL S5 ((md_at 63 7 24 S) + 5) (S5 51)) 0)) 60 (((vp_updL (vp_updL S5 ((md_at 63 7 24 S) + 5) (S5 51)) ((md_at 63 7 24 S) + 6) ((vp_updL S5 ((md_at 63 7 24 S) + 5) (S5 51)) 0)) 60) + ((vp_updL (vp_updL S5 ((md_at 63 7 24 S) + 5) (S5 51)) ((md_at 63 7 24 S) + 6) ((vp_updL S5 ((md_at 63 7 24 S) + 5) (S5 51)) 0)) 50))) 61) + ((vp_updL (vp_updL (vp_updL S5 ((md_at 63 7 24 S) + 5) (S5 51)) ((md_at 63 7 24 S) + 6) ((vp_updL S5 ((md_at 63 7 24 S) + 5) (S5 51)) 0)) 60 (((vp_updL (vp_updL S5 ((md_at 63 7 24 S) + 5) (S5 51)) ((md_at 63 7 24 S) + 6) ((vp_updL S5 ((md_at 63 7 24 S) + 5) (S5 51)) 0)) 60) + ((vp_updL (vp_updL S5 ((md_at 63 7 24 S) + 5) (S5 51)) ((md_at 63 7 24 S) + 6) ((vp_updL S5 ((md_at 63 7 24 S) + 5) (S5 51)) 0)) 50))) 52))) 62) + 1)) 50 0) 51 0) 52 0) 53 0) 54 0) 55 0) 56 0) 57 0) 58 0) 59 0))
set_option maxHeartbeats 4000000 in
set_option maxRecDepth 100000 in
theorem k_X10_endsHour (l : Launch) (G : sw_E) (h0 : Nat) (b0 : Nat) (b1 : Nat) (np : Int32) (th : Int32) (hh : Int64) (S : Nat → Int64) (P : Nat → Int64) (hc : 0 ≤ (S 63).toInt ∧ (S 63).toInt ≤ 24) (hm : hI2 S) : sw_M l G yX10_endsHour wsX10_endsHour ({ frames := 2, cells := 0, slots := 0, locals := 46 } : Room) [.ref h0] [(h0, .inr (10, [.ref b0, .ref b1, .int np, .int th, .long hh])), (b0, .inl (G.2.1.2, 344, .inr (.inl S))), (b1, .inl (G.2.1.2, 1032, .inr (.inl P)))] (sw_QV G (S := Nat → Int64) (fun (u : Nat → Int64) => u = (g_X10_endsHour_5 S (g_X10_endsHour_4 (g_X10_endsHour_3 S (g_X10_endsHour_2 S (g_X10_endsHour_1 S (g_X10_endsHour_0 S))))))) (fun u => [(h0, .inr (10, [.ref b0, .ref b1, .int np, .int th, .long hh])), (b0, .inl (G.2.1.2, 344, .inr (.inl u))), (b1, .inl (G.2.1.2, 1032, .inr (.inl P)))])) 0 0 := by
  refine sw_start (cc := cX10_endsHour) (maxL := 3) (ret := none) (lv := [(0, .ref h0)]) (own := RX10) (nm := "endsHour") (by decide +kernel) rfl rfl rfl rfl (Nat.le_of_ble_eq_true rfl) (fun C F T => ?_)
  have in10 : ∀ w ∈ u_ws RX10 TX10 5, w ∈ wsX10_endsHour := fun w h => List.mem_cons_of_mem _ (List.mem_append_right _ (h))
  have hb := md_at_le (b := 63) (w := 7) (most := 24) (S := S) (by decide) hc.2
  have J5 : ∀ (S5 : Nat → Int64), S5 = (g_X10_endsHour_4 (g_X10_endsHour_3 S (g_X10_endsHour_2 S (g_X10_endsHour_1 S (g_X10_endsHour_0 S))))) → hI1 S5 → SW G C 0 0 [(h0, .inr (10, [.ref b0, .ref b1, .int np, .int th, .long hh])), (b0, .inl (G.2.1.2, 344, .inr (.inl S5))), (b1, .inl (G.2.1.2, 1032, .inr (.inl P)))] [(2, .int 3), (1, .int (nI (md_at 63 7 24 S))), (0, .ref h0)] 115 [] := by
    intro S5 hS5 hm5
    obtain ⟨at1, hat1⟩ : ∃ z, z = nI (md_at 63 7 24 S) := ⟨_, rfl⟩
    rw [← hat1]
    refine sw_aload_n (pc := 115) F dX10_endsHour_115 rfl 2 rfl ?_
    refine sw_get (pc := 116) (Cn := RX10) (T := TX10) (N := 5) (ci := 10) (v := .ref b0) F in10 0 rfl rfl 0 (by decide) rfl (List.mem_of_getElem? (i := 1) rfl) rfl dX10_endsHour_116 ?_
    refine sw_iload_n (pc := 119) F dX10_endsHour_119 rfl 1 rfl ?_
    refine sw_iconst (pc := 120) (v := 5) F dX10_endsHour_120 rfl ?_
    refine sw_iadd (pc := 121) F dX10_endsHour_121 ?_
    refine sw_topi (fun x_66 ex_66 => ?_)
    have ix_66 : x_66 = nI ((md_at 63 7 24 S) + 5) := by rw [ex_66, hat1]; exact nI_add (md_at 63 7 24 S) 5
    refine sw_aload_n (pc := 122) F dX10_endsHour_122 rfl 2 rfl ?_
    refine sw_get (pc := 123) (Cn := RX10) (T := TX10) (N := 5) (ci := 10) (v := .ref b0) F in10 0 rfl rfl 0 (by decide) rfl (List.mem_of_getElem? (i := 1) rfl) rfl dX10_endsHour_123 ?_
    refine sw_bipush (pc := 126) (v := 51) F dX10_endsHour_126 rfl ?_
    refine sw_lald (pc := 128) F 1 rfl (sw_in rfl) dX10_endsHour_128 ?_
    refine sw_naml (e := S5 51) rfl (fun x_67 ex_67 => ?_)
    obtain ⟨f_68, ef_68⟩ : ∃ y : Nat → Int64, y = vp_updL S5 ((md_at 63 7 24 S) + 5) x_67 := ⟨_, rfl⟩
    refine sw_last (pc := 129) (ws' := [(h0, .inr (10, [.ref b0, .ref b1, .int np, .int th, .long hh])), (b0, .inl (G.2.1.2, 344, .inr (.inl f_68))), (b1, .inl (G.2.1.2, 1032, .inr (.inl P)))]) F 1 rfl (by rw [ix_66]; exact vp_in_nI (by omega) (by decide)) dX10_endsHour_129 (by rw [ef_68, (show x_66.toNatClampNeg = (md_at 63 7 24 S) + 5 by rw [ix_66]; exact nI_clamp (by omega))]; rfl) ?_
    have mf_68 : hI1 f_68 := by rw [ef_68]; exact hI1_u hm5 (by omega)
    refine sw_aload_n (pc := 130) F dX10_endsHour_130 rfl 2 rfl ?_
    refine sw_get (pc := 131) (Cn := RX10) (T := TX10) (N := 5) (ci := 10) (v := .ref b0) F in10 0 rfl rfl 0 (by decide) rfl (List.mem_of_getElem? (i := 1) rfl) rfl dX10_endsHour_131 ?_
    refine sw_iload_n (pc := 134) F dX10_endsHour_134 rfl 1 rfl ?_
    refine sw_bipush (pc := 135) (v := 6) F dX10_endsHour_135 rfl ?_
    refine sw_iadd (pc := 137) F dX10_endsHour_137 ?_
    refine sw_topi (fun x_69 ex_69 => ?_)
    have ix_69 : x_69 = nI ((md_at 63 7 24 S) + 6) := by rw [ex_69, hat1]; exact nI_add (md_at 63 7 24 S) 6
    refine sw_aload_n (pc := 138) F dX10_endsHour_138 rfl 2 rfl ?_
    refine sw_get (pc := 139) (Cn := RX10) (T := TX10) (N := 5) (ci := 10) (v := .ref b0) F in10 0 rfl rfl 0 (by decide) rfl (List.mem_of_getElem? (i := 1) rfl) rfl dX10_endsHour_139 ?_
    refine sw_iconst (pc := 142) (v := 0) F dX10_endsHour_142 rfl ?_
    refine sw_lald (pc := 143) F 1 rfl (sw_in rfl) dX10_endsHour_143 ?_
    refine sw_naml (e := f_68 0) rfl (fun x_70 ex_70 => ?_)
    obtain ⟨f_71, ef_71⟩ : ∃ y : Nat → Int64, y = vp_updL f_68 ((md_at 63 7 24 S) + 6) x_70 := ⟨_, rfl⟩
    refine sw_last (pc := 144) (ws' := [(h0, .inr (10, [.ref b0, .ref b1, .int np, .int th, .long hh])), (b0, .inl (G.2.1.2, 344, .inr (.inl f_71))), (b1, .inl (G.2.1.2, 1032, .inr (.inl P)))]) F 1 rfl (by rw [ix_69]; exact vp_in_nI (by omega) (by decide)) dX10_endsHour_144 (by rw [ef_71, (show x_69.toNatClampNeg = (md_at 63 7 24 S) + 6 by rw [ix_69]; exact nI_clamp (by omega))]; rfl) ?_
    have mf_71 : hI1 f_71 := by rw [ef_71]; exact hI1_u mf_68 (by omega)
    refine sw_aload_n (pc := 145) F dX10_endsHour_145 rfl 2 rfl ?_
    refine sw_get (pc := 146) (Cn := RX10) (T := TX10) (N := 5) (ci := 10) (v := .ref b0) F in10 0 rfl rfl 0 (by decide) rfl (List.mem_of_getElem? (i := 1) rfl) rfl dX10_endsHour_146 ?_
    refine sw_bipush (pc := 149) (v := 60) F dX10_endsHour_149 rfl ?_
    refine sw_dup2 (pc := 151) F dX10_endsHour_151 rfl rfl ?_
    refine sw_lald (pc := 152) F 1 rfl (sw_in rfl) dX10_endsHour_152 ?_
    refine sw_naml (e := f_71 60) rfl (fun x_72 ex_72 => ?_)
    refine sw_aload_n (pc := 153) F dX10_endsHour_153 rfl 2 rfl ?_
    refine sw_get (pc := 154) (Cn := RX10) (T := TX10) (N := 5) (ci := 10) (v := .ref b0) F in10 0 rfl rfl 0 (by decide) rfl (List.mem_of_getElem? (i := 1) rfl) rfl dX10_endsHour_154 ?_
    refine sw_bipush (pc := 157) (v := 50) F dX10_endsHour_157 rfl ?_
    refine sw_lald (pc := 159) F 1 rfl (sw_in rfl) dX10_endsHour_159 ?_
    refine sw_naml (e := f_71 50) rfl (fun x_73 ex_73 => ?_)
    refine sw_ladd (pc := 160) F dX10_endsHour_160 ?_
    refine sw_topl (fun x_74 ex_74 => ?_)
    obtain ⟨f_75, ef_75⟩ : ∃ y : Nat → Int64, y = vp_updL f_71 60 x_74 := ⟨_, rfl⟩
    refine sw_last (pc := 161) (ws' := [(h0, .inr (10, [.ref b0, .ref b1, .int np, .int th, .long hh])), (b0, .inl (G.2.1.2, 344, .inr (.inl f_75))), (b1, .inl (G.2.1.2, 1032, .inr (.inl P)))]) F 1 rfl (sw_in rfl) dX10_endsHour_161 (by rw [ef_75]; rfl) ?_
    have mf_75 : hI1 f_75 := by rw [ef_75]; exact hI1_u mf_71 (by decide)
    refine sw_aload_n (pc := 162) F dX10_endsHour_162 rfl 2 rfl ?_
    refine sw_get (pc := 163) (Cn := RX10) (T := TX10) (N := 5) (ci := 10) (v := .ref b0) F in10 0 rfl rfl 0 (by decide) rfl (List.mem_of_getElem? (i := 1) rfl) rfl dX10_endsHour_163 ?_
    refine sw_bipush (pc := 166) (v := 61) F dX10_endsHour_166 rfl ?_
    refine sw_dup2 (pc := 168) F dX10_endsHour_168 rfl rfl ?_
    refine sw_lald (pc := 169) F 1 rfl (sw_in rfl) dX10_endsHour_169 ?_
    refine sw_naml (e := f_75 61) rfl (fun x_76 ex_76 => ?_)
    refine sw_aload_n (pc := 170) F dX10_endsHour_170 rfl 2 rfl ?_
    refine sw_get (pc := 171) (Cn := RX10) (T := TX10) (N := 5) (ci := 10) (v := .ref b0) F in10 0 rfl rfl 0 (by decide) rfl (List.mem_of_getElem? (i := 1) rfl) rfl dX10_endsHour_171 ?_
    refine sw_bipush (pc := 174) (v := 52) F dX10_endsHour_174 rfl ?_
    refine sw_lald (pc := 176) F 1 rfl (sw_in rfl) dX10_endsHour_176 ?_
    refine sw_naml (e := f_75 52) rfl (fun x_77 ex_77 => ?_)
    refine sw_ladd (pc := 177) F dX10_endsHour_177 ?_
    refine sw_topl (fun x_78 ex_78 => ?_)
    obtain ⟨f_79, ef_79⟩ : ∃ y : Nat → Int64, y = vp_updL f_75 61 x_78 := ⟨_, rfl⟩
    refine sw_last (pc := 178) (ws' := [(h0, .inr (10, [.ref b0, .ref b1, .int np, .int th, .long hh])), (b0, .inl (G.2.1.2, 344, .inr (.inl f_79))), (b1, .inl (G.2.1.2, 1032, .inr (.inl P)))]) F 1 rfl (sw_in rfl) dX10_endsHour_178 (by rw [ef_79]; rfl) ?_
    have mf_79 : hI1 f_79 := by rw [ef_79]; exact hI1_u mf_75 (by decide)
    refine sw_aload_n (pc := 179) F dX10_endsHour_179 rfl 2 rfl ?_
    refine sw_get (pc := 180) (Cn := RX10) (T := TX10) (N := 5) (ci := 10) (v := .ref b0) F in10 0 rfl rfl 0 (by decide) rfl (List.mem_of_getElem? (i := 1) rfl) rfl dX10_endsHour_180 ?_
    refine sw_bipush (pc := 183) (v := 62) F dX10_endsHour_183 rfl ?_
    refine sw_dup2 (pc := 185) F dX10_endsHour_185 rfl rfl ?_
    refine sw_lald (pc := 186) F 1 rfl (sw_in rfl) dX10_endsHour_186 ?_
    refine sw_naml (e := f_79 62) rfl (fun x_80 ex_80 => ?_)
    refine sw_lconst (pc := 187) (v := 1) F dX10_endsHour_187 rfl ?_
    refine sw_ladd (pc := 188) F dX10_endsHour_188 ?_
    refine sw_topl (fun x_81 ex_81 => ?_)
    obtain ⟨f_82, ef_82⟩ : ∃ y : Nat → Int64, y = vp_updL f_79 62 x_81 := ⟨_, rfl⟩
    refine sw_last (pc := 189) (ws' := [(h0, .inr (10, [.ref b0, .ref b1, .int np, .int th, .long hh])), (b0, .inl (G.2.1.2, 344, .inr (.inl f_82))), (b1, .inl (G.2.1.2, 1032, .inr (.inl P)))]) F 1 rfl (sw_in rfl) dX10_endsHour_189 (by rw [ef_82]; rfl) ?_
    have mf_82 : hI1 f_82 := by rw [ef_82]; exact hI1_u mf_79 (by decide)
    refine sw_bipush (pc := 190) (v := 50) F dX10_endsHour_190 rfl ?_
    refine sw_istore_n (pc := 192) (lv' := [(2, .int 50), (1, .int at1), (0, .ref h0)]) F T.1 dX10_endsHour_192 rfl (by decide) rfl ?_
    refine sw_iload_n (pc := 193) F dX10_endsHour_193 rfl 0 rfl ?_
    refine sw_bipush (pc := 194) (v := 59) F dX10_endsHour_194 rfl ?_
    refine sw_icmp_gt (pc := 196) (tgt := 212) F dX10_endsHour_196 (by decide) (fun c => absurd c (by decide)) (fun _ => ?_)
    refine sw_aload_n (pc := 199) F dX10_endsHour_199 rfl 2 rfl ?_
    refine sw_get (pc := 200) (Cn := RX10) (T := TX10) (N := 5) (ci := 10) (v := .ref b0) F in10 0 rfl rfl 0 (by decide) rfl (List.mem_of_getElem? (i := 1) rfl) rfl dX10_endsHour_200 ?_
    refine sw_iload_n (pc := 203) F dX10_endsHour_203 rfl 0 rfl ?_
    refine sw_lconst (pc := 204) (v := 0) F dX10_endsHour_204 rfl ?_
    obtain ⟨f_83, ef_83⟩ : ∃ y : Nat → Int64, y = vp_updL f_82 50 0 := ⟨_, rfl⟩
    refine sw_last (pc := 205) (ws' := [(h0, .inr (10, [.ref b0, .ref b1, .int np, .int th, .long hh])), (b0, .inl (G.2.1.2, 344, .inr (.inl f_83))), (b1, .inl (G.2.1.2, 1032, .inr (.inl P)))]) F 1 rfl (sw_in rfl) dX10_endsHour_205 (by rw [ef_83]; rfl) ?_
    have mf_83 : hI1 f_83 := by rw [ef_83]; exact hI1_u mf_82 (by decide)
    refine sw_iinc (pc := 206) (v := 51) (lv' := [(2, .int 51), (1, .int at1), (0, .ref h0)]) F T.1 dX10_endsHour_206 (q := 0) rfl rfl (by decide) rfl ?_
    refine sw_goto (pc := 209) (tgt := 193) F dX10_endsHour_209 (by decide) ?_
    refine sw_iload_n (pc := 193) F dX10_endsHour_193 rfl 0 rfl ?_
    refine sw_bipush (pc := 194) (v := 59) F dX10_endsHour_194 rfl ?_
    refine sw_icmp_gt (pc := 196) (tgt := 212) F dX10_endsHour_196 (by decide) (fun c => absurd c (by decide)) (fun _ => ?_)
    refine sw_aload_n (pc := 199) F dX10_endsHour_199 rfl 2 rfl ?_
    refine sw_get (pc := 200) (Cn := RX10) (T := TX10) (N := 5) (ci := 10) (v := .ref b0) F in10 0 rfl rfl 0 (by decide) rfl (List.mem_of_getElem? (i := 1) rfl) rfl dX10_endsHour_200 ?_
    refine sw_iload_n (pc := 203) F dX10_endsHour_203 rfl 0 rfl ?_
    refine sw_lconst (pc := 204) (v := 0) F dX10_endsHour_204 rfl ?_
    obtain ⟨f_84, ef_84⟩ : ∃ y : Nat → Int64, y = vp_updL f_83 51 0 := ⟨_, rfl⟩
    refine sw_last (pc := 205) (ws' := [(h0, .inr (10, [.ref b0, .ref b1, .int np, .int th, .long hh])), (b0, .inl (G.2.1.2, 344, .inr (.inl f_84))), (b1, .inl (G.2.1.2, 1032, .inr (.inl P)))]) F 1 rfl (sw_in rfl) dX10_endsHour_205 (by rw [ef_84]; rfl) ?_
    have mf_84 : hI1 f_84 := by rw [ef_84]; exact hI1_u mf_83 (by decide)
    refine sw_iinc (pc := 206) (v := 52) (lv' := [(2, .int 52), (1, .int at1), (0, .ref h0)]) F T.1 dX10_endsHour_206 (q := 0) rfl rfl (by decide) rfl ?_
    refine sw_goto (pc := 209) (tgt := 193) F dX10_endsHour_209 (by decide) ?_
    refine sw_iload_n (pc := 193) F dX10_endsHour_193 rfl 0 rfl ?_
    refine sw_bipush (pc := 194) (v := 59) F dX10_endsHour_194 rfl ?_
    refine sw_icmp_gt (pc := 196) (tgt := 212) F dX10_endsHour_196 (by decide) (fun c => absurd c (by decide)) (fun _ => ?_)
    refine sw_aload_n (pc := 199) F dX10_endsHour_199 rfl 2 rfl ?_
    refine sw_get (pc := 200) (Cn := RX10) (T := TX10) (N := 5) (ci := 10) (v := .ref b0) F in10 0 rfl rfl 0 (by decide) rfl (List.mem_of_getElem? (i := 1) rfl) rfl dX10_endsHour_200 ?_
    refine sw_iload_n (pc := 203) F dX10_endsHour_203 rfl 0 rfl ?_
    refine sw_lconst (pc := 204) (v := 0) F dX10_endsHour_204 rfl ?_
    obtain ⟨f_85, ef_85⟩ : ∃ y : Nat → Int64, y = vp_updL f_84 52 0 := ⟨_, rfl⟩
    refine sw_last (pc := 205) (ws' := [(h0, .inr (10, [.ref b0, .ref b1, .int np, .int th, .long hh])), (b0, .inl (G.2.1.2, 344, .inr (.inl f_85))), (b1, .inl (G.2.1.2, 1032, .inr (.inl P)))]) F 1 rfl (sw_in rfl) dX10_endsHour_205 (by rw [ef_85]; rfl) ?_
    have mf_85 : hI1 f_85 := by rw [ef_85]; exact hI1_u mf_84 (by decide)
    refine sw_iinc (pc := 206) (v := 53) (lv' := [(2, .int 53), (1, .int at1), (0, .ref h0)]) F T.1 dX10_endsHour_206 (q := 0) rfl rfl (by decide) rfl ?_
    refine sw_goto (pc := 209) (tgt := 193) F dX10_endsHour_209 (by decide) ?_
    refine sw_iload_n (pc := 193) F dX10_endsHour_193 rfl 0 rfl ?_
    refine sw_bipush (pc := 194) (v := 59) F dX10_endsHour_194 rfl ?_
    refine sw_icmp_gt (pc := 196) (tgt := 212) F dX10_endsHour_196 (by decide) (fun c => absurd c (by decide)) (fun _ => ?_)
    refine sw_aload_n (pc := 199) F dX10_endsHour_199 rfl 2 rfl ?_
    refine sw_get (pc := 200) (Cn := RX10) (T := TX10) (N := 5) (ci := 10) (v := .ref b0) F in10 0 rfl rfl 0 (by decide) rfl (List.mem_of_getElem? (i := 1) rfl) rfl dX10_endsHour_200 ?_
    refine sw_iload_n (pc := 203) F dX10_endsHour_203 rfl 0 rfl ?_
    refine sw_lconst (pc := 204) (v := 0) F dX10_endsHour_204 rfl ?_
    obtain ⟨f_86, ef_86⟩ : ∃ y : Nat → Int64, y = vp_updL f_85 53 0 := ⟨_, rfl⟩
    refine sw_last (pc := 205) (ws' := [(h0, .inr (10, [.ref b0, .ref b1, .int np, .int th, .long hh])), (b0, .inl (G.2.1.2, 344, .inr (.inl f_86))), (b1, .inl (G.2.1.2, 1032, .inr (.inl P)))]) F 1 rfl (sw_in rfl) dX10_endsHour_205 (by rw [ef_86]; rfl) ?_
    have mf_86 : hI1 f_86 := by rw [ef_86]; exact hI1_u mf_85 (by decide)
    refine sw_iinc (pc := 206) (v := 54) (lv' := [(2, .int 54), (1, .int at1), (0, .ref h0)]) F T.1 dX10_endsHour_206 (q := 0) rfl rfl (by decide) rfl ?_
    refine sw_goto (pc := 209) (tgt := 193) F dX10_endsHour_209 (by decide) ?_
    refine sw_iload_n (pc := 193) F dX10_endsHour_193 rfl 0 rfl ?_
    refine sw_bipush (pc := 194) (v := 59) F dX10_endsHour_194 rfl ?_
    refine sw_icmp_gt (pc := 196) (tgt := 212) F dX10_endsHour_196 (by decide) (fun c => absurd c (by decide)) (fun _ => ?_)
    refine sw_aload_n (pc := 199) F dX10_endsHour_199 rfl 2 rfl ?_
    refine sw_get (pc := 200) (Cn := RX10) (T := TX10) (N := 5) (ci := 10) (v := .ref b0) F in10 0 rfl rfl 0 (by decide) rfl (List.mem_of_getElem? (i := 1) rfl) rfl dX10_endsHour_200 ?_
    refine sw_iload_n (pc := 203) F dX10_endsHour_203 rfl 0 rfl ?_
    refine sw_lconst (pc := 204) (v := 0) F dX10_endsHour_204 rfl ?_
    obtain ⟨f_87, ef_87⟩ : ∃ y : Nat → Int64, y = vp_updL f_86 54 0 := ⟨_, rfl⟩
    refine sw_last (pc := 205) (ws' := [(h0, .inr (10, [.ref b0, .ref b1, .int np, .int th, .long hh])), (b0, .inl (G.2.1.2, 344, .inr (.inl f_87))), (b1, .inl (G.2.1.2, 1032, .inr (.inl P)))]) F 1 rfl (sw_in rfl) dX10_endsHour_205 (by rw [ef_87]; rfl) ?_
    have mf_87 : hI1 f_87 := by rw [ef_87]; exact hI1_u mf_86 (by decide)
    refine sw_iinc (pc := 206) (v := 55) (lv' := [(2, .int 55), (1, .int at1), (0, .ref h0)]) F T.1 dX10_endsHour_206 (q := 0) rfl rfl (by decide) rfl ?_
    refine sw_goto (pc := 209) (tgt := 193) F dX10_endsHour_209 (by decide) ?_
    refine sw_iload_n (pc := 193) F dX10_endsHour_193 rfl 0 rfl ?_
    refine sw_bipush (pc := 194) (v := 59) F dX10_endsHour_194 rfl ?_
    refine sw_icmp_gt (pc := 196) (tgt := 212) F dX10_endsHour_196 (by decide) (fun c => absurd c (by decide)) (fun _ => ?_)
    refine sw_aload_n (pc := 199) F dX10_endsHour_199 rfl 2 rfl ?_
    refine sw_get (pc := 200) (Cn := RX10) (T := TX10) (N := 5) (ci := 10) (v := .ref b0) F in10 0 rfl rfl 0 (by decide) rfl (List.mem_of_getElem? (i := 1) rfl) rfl dX10_endsHour_200 ?_
    refine sw_iload_n (pc := 203) F dX10_endsHour_203 rfl 0 rfl ?_
    refine sw_lconst (pc := 204) (v := 0) F dX10_endsHour_204 rfl ?_
    obtain ⟨f_88, ef_88⟩ : ∃ y : Nat → Int64, y = vp_updL f_87 55 0 := ⟨_, rfl⟩
    refine sw_last (pc := 205) (ws' := [(h0, .inr (10, [.ref b0, .ref b1, .int np, .int th, .long hh])), (b0, .inl (G.2.1.2, 344, .inr (.inl f_88))), (b1, .inl (G.2.1.2, 1032, .inr (.inl P)))]) F 1 rfl (sw_in rfl) dX10_endsHour_205 (by rw [ef_88]; rfl) ?_
    have mf_88 : hI1 f_88 := by rw [ef_88]; exact hI1_u mf_87 (by decide)
    refine sw_iinc (pc := 206) (v := 56) (lv' := [(2, .int 56), (1, .int at1), (0, .ref h0)]) F T.1 dX10_endsHour_206 (q := 0) rfl rfl (by decide) rfl ?_
    refine sw_goto (pc := 209) (tgt := 193) F dX10_endsHour_209 (by decide) ?_
    refine sw_iload_n (pc := 193) F dX10_endsHour_193 rfl 0 rfl ?_
    refine sw_bipush (pc := 194) (v := 59) F dX10_endsHour_194 rfl ?_
    refine sw_icmp_gt (pc := 196) (tgt := 212) F dX10_endsHour_196 (by decide) (fun c => absurd c (by decide)) (fun _ => ?_)
    refine sw_aload_n (pc := 199) F dX10_endsHour_199 rfl 2 rfl ?_
    refine sw_get (pc := 200) (Cn := RX10) (T := TX10) (N := 5) (ci := 10) (v := .ref b0) F in10 0 rfl rfl 0 (by decide) rfl (List.mem_of_getElem? (i := 1) rfl) rfl dX10_endsHour_200 ?_
    refine sw_iload_n (pc := 203) F dX10_endsHour_203 rfl 0 rfl ?_
    refine sw_lconst (pc := 204) (v := 0) F dX10_endsHour_204 rfl ?_
    obtain ⟨f_89, ef_89⟩ : ∃ y : Nat → Int64, y = vp_updL f_88 56 0 := ⟨_, rfl⟩
    refine sw_last (pc := 205) (ws' := [(h0, .inr (10, [.ref b0, .ref b1, .int np, .int th, .long hh])), (b0, .inl (G.2.1.2, 344, .inr (.inl f_89))), (b1, .inl (G.2.1.2, 1032, .inr (.inl P)))]) F 1 rfl (sw_in rfl) dX10_endsHour_205 (by rw [ef_89]; rfl) ?_
    have mf_89 : hI1 f_89 := by rw [ef_89]; exact hI1_u mf_88 (by decide)
    refine sw_iinc (pc := 206) (v := 57) (lv' := [(2, .int 57), (1, .int at1), (0, .ref h0)]) F T.1 dX10_endsHour_206 (q := 0) rfl rfl (by decide) rfl ?_
    refine sw_goto (pc := 209) (tgt := 193) F dX10_endsHour_209 (by decide) ?_
    refine sw_iload_n (pc := 193) F dX10_endsHour_193 rfl 0 rfl ?_
    refine sw_bipush (pc := 194) (v := 59) F dX10_endsHour_194 rfl ?_
    refine sw_icmp_gt (pc := 196) (tgt := 212) F dX10_endsHour_196 (by decide) (fun c => absurd c (by decide)) (fun _ => ?_)
    refine sw_aload_n (pc := 199) F dX10_endsHour_199 rfl 2 rfl ?_
    refine sw_get (pc := 200) (Cn := RX10) (T := TX10) (N := 5) (ci := 10) (v := .ref b0) F in10 0 rfl rfl 0 (by decide) rfl (List.mem_of_getElem? (i := 1) rfl) rfl dX10_endsHour_200 ?_
    refine sw_iload_n (pc := 203) F dX10_endsHour_203 rfl 0 rfl ?_
    refine sw_lconst (pc := 204) (v := 0) F dX10_endsHour_204 rfl ?_
    obtain ⟨f_90, ef_90⟩ : ∃ y : Nat → Int64, y = vp_updL f_89 57 0 := ⟨_, rfl⟩
    refine sw_last (pc := 205) (ws' := [(h0, .inr (10, [.ref b0, .ref b1, .int np, .int th, .long hh])), (b0, .inl (G.2.1.2, 344, .inr (.inl f_90))), (b1, .inl (G.2.1.2, 1032, .inr (.inl P)))]) F 1 rfl (sw_in rfl) dX10_endsHour_205 (by rw [ef_90]; rfl) ?_
    have mf_90 : hI1 f_90 := by rw [ef_90]; exact hI1_u mf_89 (by decide)
    refine sw_iinc (pc := 206) (v := 58) (lv' := [(2, .int 58), (1, .int at1), (0, .ref h0)]) F T.1 dX10_endsHour_206 (q := 0) rfl rfl (by decide) rfl ?_
    refine sw_goto (pc := 209) (tgt := 193) F dX10_endsHour_209 (by decide) ?_
    refine sw_iload_n (pc := 193) F dX10_endsHour_193 rfl 0 rfl ?_
    refine sw_bipush (pc := 194) (v := 59) F dX10_endsHour_194 rfl ?_
    refine sw_icmp_gt (pc := 196) (tgt := 212) F dX10_endsHour_196 (by decide) (fun c => absurd c (by decide)) (fun _ => ?_)
    refine sw_aload_n (pc := 199) F dX10_endsHour_199 rfl 2 rfl ?_
    refine sw_get (pc := 200) (Cn := RX10) (T := TX10) (N := 5) (ci := 10) (v := .ref b0) F in10 0 rfl rfl 0 (by decide) rfl (List.mem_of_getElem? (i := 1) rfl) rfl dX10_endsHour_200 ?_
    refine sw_iload_n (pc := 203) F dX10_endsHour_203 rfl 0 rfl ?_
    refine sw_lconst (pc := 204) (v := 0) F dX10_endsHour_204 rfl ?_
    obtain ⟨f_91, ef_91⟩ : ∃ y : Nat → Int64, y = vp_updL f_90 58 0 := ⟨_, rfl⟩
    refine sw_last (pc := 205) (ws' := [(h0, .inr (10, [.ref b0, .ref b1, .int np, .int th, .long hh])), (b0, .inl (G.2.1.2, 344, .inr (.inl f_91))), (b1, .inl (G.2.1.2, 1032, .inr (.inl P)))]) F 1 rfl (sw_in rfl) dX10_endsHour_205 (by rw [ef_91]; rfl) ?_
    have mf_91 : hI1 f_91 := by rw [ef_91]; exact hI1_u mf_90 (by decide)
    refine sw_iinc (pc := 206) (v := 59) (lv' := [(2, .int 59), (1, .int at1), (0, .ref h0)]) F T.1 dX10_endsHour_206 (q := 0) rfl rfl (by decide) rfl ?_
    refine sw_goto (pc := 209) (tgt := 193) F dX10_endsHour_209 (by decide) ?_
    refine sw_iload_n (pc := 193) F dX10_endsHour_193 rfl 0 rfl ?_
    refine sw_bipush (pc := 194) (v := 59) F dX10_endsHour_194 rfl ?_
    refine sw_icmp_gt (pc := 196) (tgt := 212) F dX10_endsHour_196 (by decide) (fun c => absurd c (by decide)) (fun _ => ?_)
    refine sw_aload_n (pc := 199) F dX10_endsHour_199 rfl 2 rfl ?_
    refine sw_get (pc := 200) (Cn := RX10) (T := TX10) (N := 5) (ci := 10) (v := .ref b0) F in10 0 rfl rfl 0 (by decide) rfl (List.mem_of_getElem? (i := 1) rfl) rfl dX10_endsHour_200 ?_
    refine sw_iload_n (pc := 203) F dX10_endsHour_203 rfl 0 rfl ?_
    refine sw_lconst (pc := 204) (v := 0) F dX10_endsHour_204 rfl ?_
    obtain ⟨f_92, ef_92⟩ : ∃ y : Nat → Int64, y = vp_updL f_91 59 0 := ⟨_, rfl⟩
    refine sw_last (pc := 205) (ws' := [(h0, .inr (10, [.ref b0, .ref b1, .int np, .int th, .long hh])), (b0, .inl (G.2.1.2, 344, .inr (.inl f_92))), (b1, .inl (G.2.1.2, 1032, .inr (.inl P)))]) F 1 rfl (sw_in rfl) dX10_endsHour_205 (by rw [ef_92]; rfl) ?_
    have mf_92 : hI1 f_92 := by rw [ef_92]; exact hI1_u mf_91 (by decide)
    refine sw_iinc (pc := 206) (v := 60) (lv' := [(2, .int 60), (1, .int at1), (0, .ref h0)]) F T.1 dX10_endsHour_206 (q := 0) rfl rfl (by decide) rfl ?_
    refine sw_goto (pc := 209) (tgt := 193) F dX10_endsHour_209 (by decide) ?_
    refine sw_iload_n (pc := 193) F dX10_endsHour_193 rfl 0 rfl ?_
    refine sw_bipush (pc := 194) (v := 59) F dX10_endsHour_194 rfl ?_
    refine sw_icmp_gt (pc := 196) (tgt := 212) F dX10_endsHour_196 (by decide) (fun _ => ?_) (fun c => absurd c (by decide))
    refine sw_aload_n (pc := 212) F dX10_endsHour_212 rfl 2 rfl ?_
    refine sw_get (pc := 213) (Cn := RX10) (T := TX10) (N := 5) (ci := 10) (v := .ref b0) F in10 0 rfl rfl 0 (by decide) rfl (List.mem_of_getElem? (i := 1) rfl) rfl dX10_endsHour_213 ?_
    refine sw_iconst (pc := 216) (v := 0) F dX10_endsHour_216 rfl ?_
    refine sw_lald (pc := 217) F 1 rfl (sw_in rfl) dX10_endsHour_217 ?_
    refine sw_naml (e := f_92 0) rfl (fun x_93 ex_93 => ?_)
    refine sw_ldc2 (pc := 218) (v := 3600) F (List.mem_of_getElem? (i := 2) rfl) dX10_endsHour_218 ?_
    refine sw_ldiv (pc := 221) F dX10_endsHour_221 (by decide) ?_
    refine sw_topl (fun x_94 ex_94 => ?_)
    refine sw_ldc2 (pc := 222) (v := 24) F (List.mem_of_getElem? (i := 3) rfl) dX10_endsHour_222 ?_
    refine sw_lrem (pc := 225) F dX10_endsHour_225 (by decide) ?_
    refine sw_topl (fun x_95 ex_95 => ?_)
    refine sw_aload_n (pc := 226) F dX10_endsHour_226 rfl 2 rfl ?_
    refine sw_get (pc := 227) (Cn := RX10) (T := TX10) (N := 5) (ci := 10) (v := .ref b0) F in10 0 rfl rfl 0 (by decide) rfl (List.mem_of_getElem? (i := 1) rfl) rfl dX10_endsHour_227 ?_
    refine sw_iconst (pc := 230) (v := 5) F dX10_endsHour_230 rfl ?_
    refine sw_lald (pc := 231) F 1 rfl (sw_in rfl) dX10_endsHour_231 ?_
    refine sw_naml (e := f_92 5) rfl (fun x_96 ex_96 => ?_)
    refine sw_lcmp_ne (pc := 232) (tgt := 240) F dX10_endsHour_232 dX10_endsHour_233 (by decide) (fun c_97 => ?_) (fun c_97 => ?_)
    · skip
      subst ex_96
      subst ex_95
      subst ex_94
      subst ex_93
      subst ef_92
      subst ef_91
      subst ef_90
      subst ef_89
      subst ef_88
      subst ef_87
      subst ef_86
      subst ef_85
      subst ef_84
      subst ef_83
      subst ef_82
      subst ex_81
      subst ex_80
      subst ef_79
      subst ex_78
      subst ex_77
      subst ex_76
      subst ef_75
      subst ex_74
      subst ex_73
      subst ex_72
      subst ef_71
      subst ex_70
      subst ex_69
      subst ef_68
      subst ex_67
      subst ex_66
      subst hat1
      exact sw_vret (pc := 240) F T ((vp_updL (vp_updL (vp_updL (vp_updL (vp_updL (vp_updL (vp_updL (vp_updL (vp_updL (vp_updL (vp_updL (vp_updL (vp_updL (vp_updL (vp_updL S5 ((md_at 63 7 24 S) + 5) (S5 51)) ((md_at 63 7 24 S) + 6) ((vp_updL S5 ((md_at 63 7 24 S) + 5) (S5 51)) 0)) 60 (((vp_updL (vp_updL S5 ((md_at 63 7 24 S) + 5) (S5 51)) ((md_at 63 7 24 S) + 6) ((vp_updL S5 ((md_at 63 7 24 S) + 5) (S5 51)) 0)) 60) + ((vp_updL (vp_updL S5 ((md_at 63 7 24 S) + 5) (S5 51)) ((md_at 63 7 24 S) + 6) ((vp_updL S5 ((md_at 63 7 24 S) + 5) (S5 51)) 0)) 50))) 61 (((vp_updL (vp_updL (vp_updL S5 ((md_at 63 7 24 S) + 5) (S5 51)) ((md_at 63 7 24 S) + 6) ((vp_updL S5 ((md_at 63 7 24 S) + 5) (S5 51)) 0)) 60 (((vp_updL (vp_updL S5 ((md_at 63 7 24 S) + 5) (S5 51)) ((md_at 63 7 24 S) + 6) ((vp_updL S5 ((md_at 63 7 24 S) + 5) (S5 51)) 0)) 60) + ((vp_updL (vp_updL S5 ((md_at 63 7 24 S) + 5) (S5 51)) ((md_at 63 7 24 S) + 6) ((vp_updL S5 ((md_at 63 7 24 S) + 5) (S5 51)) 0)) 50))) 61) + ((vp_updL (vp_updL (vp_updL S5 ((md_at 63 7 24 S) + 5) (S5 51)) ((md_at 63 7 24 S) + 6) ((vp_updL S5 ((md_at 63 7 24 S) + 5) (S5 51)) 0)) 60 (((vp_updL (vp_updL S5 ((md_at 63 7 24 S) + 5) (S5 51)) ((md_at 63 7 24 S) + 6) ((vp_updL S5 ((md_at 63 7 24 S) + 5) (S5 51)) 0)) 60) + ((vp_updL (vp_updL S5 ((md_at 63 7 24 S) + 5) (S5 51)) ((md_at 63 7 24 S) + 6) ((vp_updL S5 ((md_at 63 7 24 S) + 5) (S5 51)) 0)) 50))) 52))) 62 (((vp_updL (vp_updL (vp_updL (vp_updL S5 ((md_at 63 7 24 S) + 5) (S5 51)) ((md_at 63 7 24 S) + 6) ((vp_updL S5 ((md_at 63 7 24 S) + 5) (S5 51)) 0)) 60 (((vp_updL (vp_updL S5 ((md_at 63 7 24 S) + 5) (S5 51)) ((md_at 63 7 24 S) + 6) ((vp_updL S5 ((md_at 63 7 24 S) + 5) (S5 51)) 0)) 60) + ((vp_updL (vp_updL S5 ((md_at 63 7 24 S) + 5) (S5 51)) ((md_at 63 7 24 S) + 6) ((vp_updL S5 ((md_at 63 7 24 S) + 5) (S5 51)) 0)) 50))) 61 (((vp_updL (vp_updL (vp_updL S5 ((md_at 63 7 24 S) + 5) (S5 51)) ((md_at 63 7 24 S) + 6) ((vp_updL S5 ((md_at 63 7 24 S) + 5) (S5 51)) 0)) 60 (((vp_updL (vp_updL S5 ((md_at 63 7 24 S) + 5) (S5 51)) ((md_at 63 7 24 S) + 6) ((vp_updL S5 ((md_at 63 7 24 S) + 5) (S5 51)) 0)) 60) + ((vp_updL (vp_updL S5 ((md_at 63 7 24 S) + 5) (S5 51)) ((md_at 63 7 24 S) + 6) ((vp_updL S5 ((md_at 63 7 24 S) + 5) (S5 51)) 0)) 50))) 61) + ((vp_updL (vp_updL (vp_updL S5 ((md_at 63 7 24 S) + 5) (S5 51)) ((md_at 63 7 24 S) + 6) ((vp_updL S5 ((md_at 63 7 24 S) + 5) (S5 51)) 0)) 60 (((vp_updL (vp_updL S5 ((md_at 63 7 24 S) + 5) (S5 51)) ((md_at 63 7 24 S) + 6) ((vp_updL S5 ((md_at 63 7 24 S) + 5) (S5 51)) 0)) 60) + ((vp_updL (vp_updL S5 ((md_at 63 7 24 S) + 5) (S5 51)) ((md_at 63 7 24 S) + 6) ((vp_updL S5 ((md_at 63 7 24 S) + 5) (S5 51)) 0)) 50))) 52))) 62) + 1)) 50 0) 51 0) 52 0) 53 0) 54 0) 55 0) 56 0) 57 0) 58 0) 59 0)) (by rw [← hS5]; unfold g_X10_endsHour_5; rw [if_neg c_97]) rfl dX10_endsHour_240
    · skip
      refine sw_aload_n (pc := 236) F dX10_endsHour_236 rfl 2 rfl ?_
      refine sw_callv (pc := 237) (wr := []) (k' := 0) (n' := 0) F (sw_runV (R := ({ frames := 2, cells := 0, slots := 0, locals := 46 } : Room)) (q0 := 0) (na := 0) F T.2.1 T.2.2.1 (k_X10_endsDay l G h0 b0 b1 np th hh f_92 P mf_92) [0, 1, 2] rfl (by decide) gX10_endsHour_X10_endsDay rfl rfl rfl (by decide +kernel) ⟨Nat.le_of_ble_eq_true rfl, Nat.le_of_ble_eq_true rfl⟩ rfl rfl rfl rfl rfl (Nat.le_of_ble_eq_true rfl) dX10_endsHour_237 (Nat.le_of_ble_eq_true rfl) (Nat.le_of_ble_eq_true rfl)) [0, 1, 2] [] rfl rfl (by decide) (by decide) rfl rfl (fun u_99 h_100 => ?_)
      obtain ⟨o_101, eu_99⟩ : ∃ z, z = u_99 := ⟨_, rfl⟩; subst eu_99
      have e_102 : o_101 = f_X10_endsDay_o1 f_92 := h_100
      refine sw_eq (ws' := [(h0, .inr (10, [.ref b0, .ref b1, .int np, .int th, .long hh])), (b0, .inl (G.2.1.2, 344, .inr (.inl o_101))), (b1, .inl (G.2.1.2, 1032, .inr (.inl P)))]) (lv' := [(2, .int 60), (1, .int at1), (0, .ref h0)]) (st' := []) rfl rfl rfl ?_
      subst e_102
      subst ex_96
      subst ex_95
      subst ex_94
      subst ex_93
      subst ef_92
      subst ef_91
      subst ef_90
      subst ef_89
      subst ef_88
      subst ef_87
      subst ef_86
      subst ef_85
      subst ef_84
      subst ef_83
      subst ef_82
      subst ex_81
      subst ex_80
      subst ef_79
      subst ex_78
      subst ex_77
      subst ex_76
      subst ef_75
      subst ex_74
      subst ex_73
      subst ex_72
      subst ef_71
      subst ex_70
      subst ex_69
      subst ef_68
      subst ex_67
      subst ex_66
      subst hat1
      exact sw_vret (pc := 240) F T ((f_X10_endsDay_o1 (vp_updL (vp_updL (vp_updL (vp_updL (vp_updL (vp_updL (vp_updL (vp_updL (vp_updL (vp_updL (vp_updL (vp_updL (vp_updL (vp_updL (vp_updL S5 ((md_at 63 7 24 S) + 5) (S5 51)) ((md_at 63 7 24 S) + 6) ((vp_updL S5 ((md_at 63 7 24 S) + 5) (S5 51)) 0)) 60 (((vp_updL (vp_updL S5 ((md_at 63 7 24 S) + 5) (S5 51)) ((md_at 63 7 24 S) + 6) ((vp_updL S5 ((md_at 63 7 24 S) + 5) (S5 51)) 0)) 60) + ((vp_updL (vp_updL S5 ((md_at 63 7 24 S) + 5) (S5 51)) ((md_at 63 7 24 S) + 6) ((vp_updL S5 ((md_at 63 7 24 S) + 5) (S5 51)) 0)) 50))) 61 (((vp_updL (vp_updL (vp_updL S5 ((md_at 63 7 24 S) + 5) (S5 51)) ((md_at 63 7 24 S) + 6) ((vp_updL S5 ((md_at 63 7 24 S) + 5) (S5 51)) 0)) 60 (((vp_updL (vp_updL S5 ((md_at 63 7 24 S) + 5) (S5 51)) ((md_at 63 7 24 S) + 6) ((vp_updL S5 ((md_at 63 7 24 S) + 5) (S5 51)) 0)) 60) + ((vp_updL (vp_updL S5 ((md_at 63 7 24 S) + 5) (S5 51)) ((md_at 63 7 24 S) + 6) ((vp_updL S5 ((md_at 63 7 24 S) + 5) (S5 51)) 0)) 50))) 61) + ((vp_updL (vp_updL (vp_updL S5 ((md_at 63 7 24 S) + 5) (S5 51)) ((md_at 63 7 24 S) + 6) ((vp_updL S5 ((md_at 63 7 24 S) + 5) (S5 51)) 0)) 60 (((vp_updL (vp_updL S5 ((md_at 63 7 24 S) + 5) (S5 51)) ((md_at 63 7 24 S) + 6) ((vp_updL S5 ((md_at 63 7 24 S) + 5) (S5 51)) 0)) 60) + ((vp_updL (vp_updL S5 ((md_at 63 7 24 S) + 5) (S5 51)) ((md_at 63 7 24 S) + 6) ((vp_updL S5 ((md_at 63 7 24 S) + 5) (S5 51)) 0)) 50))) 52))) 62 (((vp_updL (vp_updL (vp_updL (vp_updL S5 ((md_at 63 7 24 S) + 5) (S5 51)) ((md_at 63 7 24 S) + 6) ((vp_updL S5 ((md_at 63 7 24 S) + 5) (S5 51)) 0)) 60 (((vp_updL (vp_updL S5 ((md_at 63 7 24 S) + 5) (S5 51)) ((md_at 63 7 24 S) + 6) ((vp_updL S5 ((md_at 63 7 24 S) + 5) (S5 51)) 0)) 60) + ((vp_updL (vp_updL S5 ((md_at 63 7 24 S) + 5) (S5 51)) ((md_at 63 7 24 S) + 6) ((vp_updL S5 ((md_at 63 7 24 S) + 5) (S5 51)) 0)) 50))) 61 (((vp_updL (vp_updL (vp_updL S5 ((md_at 63 7 24 S) + 5) (S5 51)) ((md_at 63 7 24 S) + 6) ((vp_updL S5 ((md_at 63 7 24 S) + 5) (S5 51)) 0)) 60 (((vp_updL (vp_updL S5 ((md_at 63 7 24 S) + 5) (S5 51)) ((md_at 63 7 24 S) + 6) ((vp_updL S5 ((md_at 63 7 24 S) + 5) (S5 51)) 0)) 60) + ((vp_updL (vp_updL S5 ((md_at 63 7 24 S) + 5) (S5 51)) ((md_at 63 7 24 S) + 6) ((vp_updL S5 ((md_at 63 7 24 S) + 5) (S5 51)) 0)) 50))) 61) + ((vp_updL (vp_updL (vp_updL S5 ((md_at 63 7 24 S) + 5) (S5 51)) ((md_at 63 7 24 S) + 6) ((vp_updL S5 ((md_at 63 7 24 S) + 5) (S5 51)) 0)) 60 (((vp_updL (vp_updL S5 ((md_at 63 7 24 S) + 5) (S5 51)) ((md_at 63 7 24 S) + 6) ((vp_updL S5 ((md_at 63 7 24 S) + 5) (S5 51)) 0)) 60) + ((vp_updL (vp_updL S5 ((md_at 63 7 24 S) + 5) (S5 51)) ((md_at 63 7 24 S) + 6) ((vp_updL S5 ((md_at 63 7 24 S) + 5) (S5 51)) 0)) 50))) 52))) 62) + 1)) 50 0) 51 0) 52 0) 53 0) 54 0) 55 0) 56 0) 57 0) 58 0) 59 0))) (by rw [← hS5]; unfold g_X10_endsHour_5; rw [if_pos c_97]) rfl dX10_endsHour_240
  have J4 : ∀ (S4 : Nat → Int64), S4 = (g_X10_endsHour_3 S (g_X10_endsHour_2 S (g_X10_endsHour_1 S (g_X10_endsHour_0 S)))) → hI2 S4 → SW G C 0 0 [(h0, .inr (10, [.ref b0, .ref b1, .int np, .int th, .long hh])), (b0, .inl (G.2.1.2, 344, .inr (.inl S4))), (b1, .inl (G.2.1.2, 1032, .inr (.inl P)))] [(2, .int 3), (1, .int (nI (md_at 63 7 24 S))), (0, .ref h0)] 41 [] := by
    intro S4 hS4 hm4
    obtain ⟨at1, hat1⟩ : ∃ z, z = nI (md_at 63 7 24 S) := ⟨_, rfl⟩
    rw [← hat1]
    refine sw_iload_n (pc := 41) F dX10_endsHour_41 rfl 0 rfl ?_
    refine sw_iconst (pc := 42) (v := 3) F dX10_endsHour_42 rfl ?_
    refine sw_icmp_ge (pc := 43) (tgt := 115) F dX10_endsHour_43 (by decide) (fun _ => ?_) (fun c => absurd c (by decide))
    refine sw_lvs (is := [0, 1, 2]) (lv' := [(2, .int 3), (1, .int at1), (0, .ref h0)]) rfl ?_
    subst hat1
    exact J5 _ (by rw [← hS4]; rfl) (hm4).1
  have J3 : ∀ (S3 : Nat → Int64), S3 = (g_X10_endsHour_2 S (g_X10_endsHour_1 S (g_X10_endsHour_0 S))) → hI2 S3 → SW G C 0 0 [(h0, .inr (10, [.ref b0, .ref b1, .int np, .int th, .long hh])), (b0, .inl (G.2.1.2, 344, .inr (.inl S3))), (b1, .inl (G.2.1.2, 1032, .inr (.inl P)))] [(2, .int 2), (1, .int (nI (md_at 63 7 24 S))), (0, .ref h0)] 41 [] := by
    intro S3 hS3 hm3
    obtain ⟨at1, hat1⟩ : ∃ z, z = nI (md_at 63 7 24 S) := ⟨_, rfl⟩
    rw [← hat1]
    refine sw_iload_n (pc := 41) F dX10_endsHour_41 rfl 0 rfl ?_
    refine sw_iconst (pc := 42) (v := 3) F dX10_endsHour_42 rfl ?_
    refine sw_icmp_ge (pc := 43) (tgt := 115) F dX10_endsHour_43 (by decide) (fun c => absurd c (by decide)) (fun _ => ?_)
    refine sw_aload_n (pc := 46) F dX10_endsHour_46 rfl 2 rfl ?_
    refine sw_get (pc := 47) (Cn := RX10) (T := TX10) (N := 5) (ci := 10) (v := .ref b0) F in10 0 rfl rfl 0 (by decide) rfl (List.mem_of_getElem? (i := 1) rfl) rfl dX10_endsHour_47 ?_
    refine sw_iload_n (pc := 50) F dX10_endsHour_50 rfl 1 rfl ?_
    refine sw_iconst (pc := 51) (v := 2) F dX10_endsHour_51 rfl ?_
    refine sw_iadd (pc := 52) F dX10_endsHour_52 ?_
    refine sw_topi (fun x_48 ex_48 => ?_)
    have ix_48 : x_48 = nI ((md_at 63 7 24 S) + 2) := by rw [ex_48, hat1]; exact nI_add (md_at 63 7 24 S) 2
    refine sw_iload_n (pc := 53) F dX10_endsHour_53 rfl 0 rfl ?_
    refine sw_iadd (pc := 54) F dX10_endsHour_54 ?_
    refine sw_topi (fun x_49 ex_49 => ?_)
    have ix_49 : x_49 = nI (((md_at 63 7 24 S) + 2) + 2) := by rw [ex_49, ix_48]; exact nI_add ((md_at 63 7 24 S) + 2) 2
    refine sw_aload_n (pc := 55) F dX10_endsHour_55 rfl 2 rfl ?_
    refine sw_get (pc := 56) (Cn := RX10) (T := TX10) (N := 5) (ci := 10) (v := .ref b0) F in10 0 rfl rfl 0 (by decide) rfl (List.mem_of_getElem? (i := 1) rfl) rfl dX10_endsHour_56 ?_
    refine sw_bipush (pc := 59) (v := 52) F dX10_endsHour_59 rfl ?_
    refine sw_lald (pc := 61) F 1 rfl (sw_in rfl) dX10_endsHour_61 ?_
    refine sw_naml (e := S3 52) rfl (fun x_50 ex_50 => ?_)
    refine sw_lconst (pc := 62) (v := 0) F dX10_endsHour_62 rfl ?_
    refine sw_lcmp_le (pc := 63) (tgt := 89) F dX10_endsHour_63 dX10_endsHour_64 (by decide) (fun c_51 => ?_) (fun c_51 => ?_)
    · skip
      refine sw_aload_n (pc := 89) F dX10_endsHour_89 rfl 2 rfl ?_
      refine sw_get (pc := 90) (Cn := RX10) (T := TX10) (N := 5) (ci := 10) (v := .ref b0) F in10 0 rfl rfl 0 (by decide) rfl (List.mem_of_getElem? (i := 1) rfl) rfl dX10_endsHour_90 ?_
      refine sw_bipush (pc := 93) (v := 56) F dX10_endsHour_93 rfl ?_
      refine sw_iload_n (pc := 95) F dX10_endsHour_95 rfl 0 rfl ?_
      refine sw_iadd (pc := 96) F dX10_endsHour_96 ?_
      refine sw_eqt (v := .int 58) (by rfl) ?_
      refine sw_lald (pc := 97) F 1 rfl (sw_in rfl) dX10_endsHour_97 ?_
      refine sw_naml (e := S3 58) rfl (fun x_52 ex_52 => ?_)
      refine sw_aload_n (pc := 98) F dX10_endsHour_98 rfl 2 rfl ?_
      refine sw_get (pc := 99) (Cn := RX10) (T := TX10) (N := 5) (ci := 10) (v := .ref b0) F in10 0 rfl rfl 0 (by decide) rfl (List.mem_of_getElem? (i := 1) rfl) rfl dX10_endsHour_99 ?_
      refine sw_bipush (pc := 102) (v := 59) F dX10_endsHour_102 rfl ?_
      refine sw_lald (pc := 104) F 1 rfl (sw_in rfl) dX10_endsHour_104 ?_
      refine sw_naml (e := S3 59) rfl (fun x_53 ex_53 => ?_)
      refine sw_calll (pc := 105) (wr := [(h0, .inr (10, [.ref b0, .ref b1, .int np, .int th, .long hh])), (b0, .inl (G.2.1.2, 344, .inr (.inl S3))), (b1, .inl (G.2.1.2, 1032, .inr (.inl P)))]) (k' := 0) (n' := 0) F (sw_runS (R := ({ frames := 2, cells := 0, slots := 0, locals := 46 } : Room)) (na := 2) F T.2.1 T.2.2.1 (k_X10_floor l G x_52 x_53 (by rw [ex_53]; exact nz_int (hm3).2)) [] rfl (by decide) gX10_endsHour_X10_floor rfl rfl rfl (by decide +kernel) ⟨Nat.le_of_ble_eq_true rfl, Nat.le_of_ble_eq_true rfl⟩ rfl rfl (Nat.le_of_ble_eq_true rfl) dX10_endsHour_105 (Nat.le_of_ble_eq_true rfl) (Nat.le_of_ble_eq_true rfl)) [] [0, 1, 2] rfl rfl (by decide) (by decide) rfl rfl (fun r_54 u_55 h_56 => ?_)
      have e_57 : r_54 = f_X10_floor_r x_52 x_53 := h_56
      refine sw_eq (ws' := [(h0, .inr (10, [.ref b0, .ref b1, .int np, .int th, .long hh])), (b0, .inl (G.2.1.2, 344, .inr (.inl S3))), (b1, .inl (G.2.1.2, 1032, .inr (.inl P)))]) (lv' := [(2, .int 2), (1, .int at1), (0, .ref h0)]) (st' := [.long r_54, .int x_49, .ref b0]) rfl rfl rfl ?_
      obtain ⟨f_58, ef_58⟩ : ∃ y : Nat → Int64, y = vp_updL S3 (((md_at 63 7 24 S) + 2) + 2) r_54 := ⟨_, rfl⟩
      refine sw_last (pc := 108) (ws' := [(h0, .inr (10, [.ref b0, .ref b1, .int np, .int th, .long hh])), (b0, .inl (G.2.1.2, 344, .inr (.inl f_58))), (b1, .inl (G.2.1.2, 1032, .inr (.inl P)))]) F 1 rfl (by rw [ix_49]; exact vp_in_nI (by omega) (by decide)) dX10_endsHour_108 (by rw [ef_58, (show x_49.toNatClampNeg = ((md_at 63 7 24 S) + 2) + 2 by rw [ix_49]; exact nI_clamp (by omega))]; rfl) ?_
      have mf_58 : hI2 f_58 := by rw [ef_58]; exact hI2_u hm3 (by omega)
      refine sw_iinc (pc := 109) (v := 3) (lv' := [(2, .int 3), (1, .int at1), (0, .ref h0)]) F T.1 dX10_endsHour_109 (q := 0) rfl rfl (by decide) rfl ?_
      refine sw_goto (pc := 112) (tgt := 41) F dX10_endsHour_112 (by decide) ?_
      refine sw_lvs (is := [0, 1, 2]) (lv' := [(2, .int 3), (1, .int at1), (0, .ref h0)]) rfl ?_
      subst ef_58
      subst e_57
      subst ex_53
      subst ex_52
      subst ex_50
      subst ex_49
      subst ex_48
      subst hat1
      exact J4 _ (by rw [← hS3]; unfold g_X10_endsHour_3; rw [if_pos c_51]) (mf_58)
    · skip
      refine sw_aload_n (pc := 67) F dX10_endsHour_67 rfl 2 rfl ?_
      refine sw_get (pc := 68) (Cn := RX10) (T := TX10) (N := 5) (ci := 10) (v := .ref b0) F in10 0 rfl rfl 0 (by decide) rfl (List.mem_of_getElem? (i := 1) rfl) rfl dX10_endsHour_68 ?_
      refine sw_bipush (pc := 71) (v := 53) F dX10_endsHour_71 rfl ?_
      refine sw_iload_n (pc := 73) F dX10_endsHour_73 rfl 0 rfl ?_
      refine sw_iadd (pc := 74) F dX10_endsHour_74 ?_
      refine sw_eqt (v := .int 55) (by rfl) ?_
      refine sw_lald (pc := 75) F 1 rfl (sw_in rfl) dX10_endsHour_75 ?_
      refine sw_naml (e := S3 55) rfl (fun x_59 ex_59 => ?_)
      refine sw_aload_n (pc := 76) F dX10_endsHour_76 rfl 2 rfl ?_
      refine sw_get (pc := 77) (Cn := RX10) (T := TX10) (N := 5) (ci := 10) (v := .ref b0) F in10 0 rfl rfl 0 (by decide) rfl (List.mem_of_getElem? (i := 1) rfl) rfl dX10_endsHour_77 ?_
      refine sw_bipush (pc := 80) (v := 52) F dX10_endsHour_80 rfl ?_
      refine sw_lald (pc := 82) F 1 rfl (sw_in rfl) dX10_endsHour_82 ?_
      refine sw_naml (e := S3 52) rfl (fun x_60 ex_60 => ?_)
      refine sw_calll (pc := 83) (wr := [(h0, .inr (10, [.ref b0, .ref b1, .int np, .int th, .long hh])), (b0, .inl (G.2.1.2, 344, .inr (.inl S3))), (b1, .inl (G.2.1.2, 1032, .inr (.inl P)))]) (k' := 0) (n' := 0) F (sw_runS (R := ({ frames := 2, cells := 0, slots := 0, locals := 46 } : Room)) (na := 2) F T.2.1 T.2.2.1 (k_X10_floor l G x_59 x_60 (by rw [ex_60, ← ex_50]; exact nz_pos c_51)) [] rfl (by decide) gX10_endsHour_X10_floor rfl rfl rfl (by decide +kernel) ⟨Nat.le_of_ble_eq_true rfl, Nat.le_of_ble_eq_true rfl⟩ rfl rfl (Nat.le_of_ble_eq_true rfl) dX10_endsHour_83 (Nat.le_of_ble_eq_true rfl) (Nat.le_of_ble_eq_true rfl)) [] [0, 1, 2] rfl rfl (by decide) (by decide) rfl rfl (fun r_61 u_62 h_63 => ?_)
      have e_64 : r_61 = f_X10_floor_r x_59 x_60 := h_63
      refine sw_eq (ws' := [(h0, .inr (10, [.ref b0, .ref b1, .int np, .int th, .long hh])), (b0, .inl (G.2.1.2, 344, .inr (.inl S3))), (b1, .inl (G.2.1.2, 1032, .inr (.inl P)))]) (lv' := [(2, .int 2), (1, .int at1), (0, .ref h0)]) (st' := [.long r_61, .int x_49, .ref b0]) rfl rfl rfl ?_
      refine sw_goto (pc := 86) (tgt := 108) F dX10_endsHour_86 (by decide) ?_
      obtain ⟨f_65, ef_65⟩ : ∃ y : Nat → Int64, y = vp_updL S3 (((md_at 63 7 24 S) + 2) + 2) r_61 := ⟨_, rfl⟩
      refine sw_last (pc := 108) (ws' := [(h0, .inr (10, [.ref b0, .ref b1, .int np, .int th, .long hh])), (b0, .inl (G.2.1.2, 344, .inr (.inl f_65))), (b1, .inl (G.2.1.2, 1032, .inr (.inl P)))]) F 1 rfl (by rw [ix_49]; exact vp_in_nI (by omega) (by decide)) dX10_endsHour_108 (by rw [ef_65, (show x_49.toNatClampNeg = ((md_at 63 7 24 S) + 2) + 2 by rw [ix_49]; exact nI_clamp (by omega))]; rfl) ?_
      have mf_65 : hI2 f_65 := by rw [ef_65]; exact hI2_u hm3 (by omega)
      refine sw_iinc (pc := 109) (v := 3) (lv' := [(2, .int 3), (1, .int at1), (0, .ref h0)]) F T.1 dX10_endsHour_109 (q := 0) rfl rfl (by decide) rfl ?_
      refine sw_goto (pc := 112) (tgt := 41) F dX10_endsHour_112 (by decide) ?_
      refine sw_lvs (is := [0, 1, 2]) (lv' := [(2, .int 3), (1, .int at1), (0, .ref h0)]) rfl ?_
      subst ef_65
      subst e_64
      subst ex_60
      subst ex_59
      subst ex_50
      subst ex_49
      subst ex_48
      subst hat1
      exact J4 _ (by rw [← hS3]; unfold g_X10_endsHour_3; rw [if_neg c_51]) (mf_65)
  have J2 : ∀ (S2 : Nat → Int64), S2 = (g_X10_endsHour_1 S (g_X10_endsHour_0 S)) → hI2 S2 → SW G C 0 0 [(h0, .inr (10, [.ref b0, .ref b1, .int np, .int th, .long hh])), (b0, .inl (G.2.1.2, 344, .inr (.inl S2))), (b1, .inl (G.2.1.2, 1032, .inr (.inl P)))] [(2, .int 1), (1, .int (nI (md_at 63 7 24 S))), (0, .ref h0)] 41 [] := by
    intro S2 hS2 hm2
    obtain ⟨at1, hat1⟩ : ∃ z, z = nI (md_at 63 7 24 S) := ⟨_, rfl⟩
    rw [← hat1]
    refine sw_iload_n (pc := 41) F dX10_endsHour_41 rfl 0 rfl ?_
    refine sw_iconst (pc := 42) (v := 3) F dX10_endsHour_42 rfl ?_
    refine sw_icmp_ge (pc := 43) (tgt := 115) F dX10_endsHour_43 (by decide) (fun c => absurd c (by decide)) (fun _ => ?_)
    refine sw_aload_n (pc := 46) F dX10_endsHour_46 rfl 2 rfl ?_
    refine sw_get (pc := 47) (Cn := RX10) (T := TX10) (N := 5) (ci := 10) (v := .ref b0) F in10 0 rfl rfl 0 (by decide) rfl (List.mem_of_getElem? (i := 1) rfl) rfl dX10_endsHour_47 ?_
    refine sw_iload_n (pc := 50) F dX10_endsHour_50 rfl 1 rfl ?_
    refine sw_iconst (pc := 51) (v := 2) F dX10_endsHour_51 rfl ?_
    refine sw_iadd (pc := 52) F dX10_endsHour_52 ?_
    refine sw_topi (fun x_30 ex_30 => ?_)
    have ix_30 : x_30 = nI ((md_at 63 7 24 S) + 2) := by rw [ex_30, hat1]; exact nI_add (md_at 63 7 24 S) 2
    refine sw_iload_n (pc := 53) F dX10_endsHour_53 rfl 0 rfl ?_
    refine sw_iadd (pc := 54) F dX10_endsHour_54 ?_
    refine sw_topi (fun x_31 ex_31 => ?_)
    have ix_31 : x_31 = nI (((md_at 63 7 24 S) + 2) + 1) := by rw [ex_31, ix_30]; exact nI_add ((md_at 63 7 24 S) + 2) 1
    refine sw_aload_n (pc := 55) F dX10_endsHour_55 rfl 2 rfl ?_
    refine sw_get (pc := 56) (Cn := RX10) (T := TX10) (N := 5) (ci := 10) (v := .ref b0) F in10 0 rfl rfl 0 (by decide) rfl (List.mem_of_getElem? (i := 1) rfl) rfl dX10_endsHour_56 ?_
    refine sw_bipush (pc := 59) (v := 52) F dX10_endsHour_59 rfl ?_
    refine sw_lald (pc := 61) F 1 rfl (sw_in rfl) dX10_endsHour_61 ?_
    refine sw_naml (e := S2 52) rfl (fun x_32 ex_32 => ?_)
    refine sw_lconst (pc := 62) (v := 0) F dX10_endsHour_62 rfl ?_
    refine sw_lcmp_le (pc := 63) (tgt := 89) F dX10_endsHour_63 dX10_endsHour_64 (by decide) (fun c_33 => ?_) (fun c_33 => ?_)
    · skip
      refine sw_aload_n (pc := 89) F dX10_endsHour_89 rfl 2 rfl ?_
      refine sw_get (pc := 90) (Cn := RX10) (T := TX10) (N := 5) (ci := 10) (v := .ref b0) F in10 0 rfl rfl 0 (by decide) rfl (List.mem_of_getElem? (i := 1) rfl) rfl dX10_endsHour_90 ?_
      refine sw_bipush (pc := 93) (v := 56) F dX10_endsHour_93 rfl ?_
      refine sw_iload_n (pc := 95) F dX10_endsHour_95 rfl 0 rfl ?_
      refine sw_iadd (pc := 96) F dX10_endsHour_96 ?_
      refine sw_eqt (v := .int 57) (by rfl) ?_
      refine sw_lald (pc := 97) F 1 rfl (sw_in rfl) dX10_endsHour_97 ?_
      refine sw_naml (e := S2 57) rfl (fun x_34 ex_34 => ?_)
      refine sw_aload_n (pc := 98) F dX10_endsHour_98 rfl 2 rfl ?_
      refine sw_get (pc := 99) (Cn := RX10) (T := TX10) (N := 5) (ci := 10) (v := .ref b0) F in10 0 rfl rfl 0 (by decide) rfl (List.mem_of_getElem? (i := 1) rfl) rfl dX10_endsHour_99 ?_
      refine sw_bipush (pc := 102) (v := 59) F dX10_endsHour_102 rfl ?_
      refine sw_lald (pc := 104) F 1 rfl (sw_in rfl) dX10_endsHour_104 ?_
      refine sw_naml (e := S2 59) rfl (fun x_35 ex_35 => ?_)
      refine sw_calll (pc := 105) (wr := [(h0, .inr (10, [.ref b0, .ref b1, .int np, .int th, .long hh])), (b0, .inl (G.2.1.2, 344, .inr (.inl S2))), (b1, .inl (G.2.1.2, 1032, .inr (.inl P)))]) (k' := 0) (n' := 0) F (sw_runS (R := ({ frames := 2, cells := 0, slots := 0, locals := 46 } : Room)) (na := 2) F T.2.1 T.2.2.1 (k_X10_floor l G x_34 x_35 (by rw [ex_35]; exact nz_int (hm2).2)) [] rfl (by decide) gX10_endsHour_X10_floor rfl rfl rfl (by decide +kernel) ⟨Nat.le_of_ble_eq_true rfl, Nat.le_of_ble_eq_true rfl⟩ rfl rfl (Nat.le_of_ble_eq_true rfl) dX10_endsHour_105 (Nat.le_of_ble_eq_true rfl) (Nat.le_of_ble_eq_true rfl)) [] [0, 1, 2] rfl rfl (by decide) (by decide) rfl rfl (fun r_36 u_37 h_38 => ?_)
      have e_39 : r_36 = f_X10_floor_r x_34 x_35 := h_38
      refine sw_eq (ws' := [(h0, .inr (10, [.ref b0, .ref b1, .int np, .int th, .long hh])), (b0, .inl (G.2.1.2, 344, .inr (.inl S2))), (b1, .inl (G.2.1.2, 1032, .inr (.inl P)))]) (lv' := [(2, .int 1), (1, .int at1), (0, .ref h0)]) (st' := [.long r_36, .int x_31, .ref b0]) rfl rfl rfl ?_
      obtain ⟨f_40, ef_40⟩ : ∃ y : Nat → Int64, y = vp_updL S2 (((md_at 63 7 24 S) + 2) + 1) r_36 := ⟨_, rfl⟩
      refine sw_last (pc := 108) (ws' := [(h0, .inr (10, [.ref b0, .ref b1, .int np, .int th, .long hh])), (b0, .inl (G.2.1.2, 344, .inr (.inl f_40))), (b1, .inl (G.2.1.2, 1032, .inr (.inl P)))]) F 1 rfl (by rw [ix_31]; exact vp_in_nI (by omega) (by decide)) dX10_endsHour_108 (by rw [ef_40, (show x_31.toNatClampNeg = ((md_at 63 7 24 S) + 2) + 1 by rw [ix_31]; exact nI_clamp (by omega))]; rfl) ?_
      have mf_40 : hI2 f_40 := by rw [ef_40]; exact hI2_u hm2 (by omega)
      refine sw_iinc (pc := 109) (v := 2) (lv' := [(2, .int 2), (1, .int at1), (0, .ref h0)]) F T.1 dX10_endsHour_109 (q := 0) rfl rfl (by decide) rfl ?_
      refine sw_goto (pc := 112) (tgt := 41) F dX10_endsHour_112 (by decide) ?_
      refine sw_lvs (is := [0, 1, 2]) (lv' := [(2, .int 2), (1, .int at1), (0, .ref h0)]) rfl ?_
      subst ef_40
      subst e_39
      subst ex_35
      subst ex_34
      subst ex_32
      subst ex_31
      subst ex_30
      subst hat1
      exact J3 _ (by rw [← hS2]; unfold g_X10_endsHour_2; rw [if_pos c_33]) (mf_40)
    · skip
      refine sw_aload_n (pc := 67) F dX10_endsHour_67 rfl 2 rfl ?_
      refine sw_get (pc := 68) (Cn := RX10) (T := TX10) (N := 5) (ci := 10) (v := .ref b0) F in10 0 rfl rfl 0 (by decide) rfl (List.mem_of_getElem? (i := 1) rfl) rfl dX10_endsHour_68 ?_
      refine sw_bipush (pc := 71) (v := 53) F dX10_endsHour_71 rfl ?_
      refine sw_iload_n (pc := 73) F dX10_endsHour_73 rfl 0 rfl ?_
      refine sw_iadd (pc := 74) F dX10_endsHour_74 ?_
      refine sw_eqt (v := .int 54) (by rfl) ?_
      refine sw_lald (pc := 75) F 1 rfl (sw_in rfl) dX10_endsHour_75 ?_
      refine sw_naml (e := S2 54) rfl (fun x_41 ex_41 => ?_)
      refine sw_aload_n (pc := 76) F dX10_endsHour_76 rfl 2 rfl ?_
      refine sw_get (pc := 77) (Cn := RX10) (T := TX10) (N := 5) (ci := 10) (v := .ref b0) F in10 0 rfl rfl 0 (by decide) rfl (List.mem_of_getElem? (i := 1) rfl) rfl dX10_endsHour_77 ?_
      refine sw_bipush (pc := 80) (v := 52) F dX10_endsHour_80 rfl ?_
      refine sw_lald (pc := 82) F 1 rfl (sw_in rfl) dX10_endsHour_82 ?_
      refine sw_naml (e := S2 52) rfl (fun x_42 ex_42 => ?_)
      refine sw_calll (pc := 83) (wr := [(h0, .inr (10, [.ref b0, .ref b1, .int np, .int th, .long hh])), (b0, .inl (G.2.1.2, 344, .inr (.inl S2))), (b1, .inl (G.2.1.2, 1032, .inr (.inl P)))]) (k' := 0) (n' := 0) F (sw_runS (R := ({ frames := 2, cells := 0, slots := 0, locals := 46 } : Room)) (na := 2) F T.2.1 T.2.2.1 (k_X10_floor l G x_41 x_42 (by rw [ex_42, ← ex_32]; exact nz_pos c_33)) [] rfl (by decide) gX10_endsHour_X10_floor rfl rfl rfl (by decide +kernel) ⟨Nat.le_of_ble_eq_true rfl, Nat.le_of_ble_eq_true rfl⟩ rfl rfl (Nat.le_of_ble_eq_true rfl) dX10_endsHour_83 (Nat.le_of_ble_eq_true rfl) (Nat.le_of_ble_eq_true rfl)) [] [0, 1, 2] rfl rfl (by decide) (by decide) rfl rfl (fun r_43 u_44 h_45 => ?_)
      have e_46 : r_43 = f_X10_floor_r x_41 x_42 := h_45
      refine sw_eq (ws' := [(h0, .inr (10, [.ref b0, .ref b1, .int np, .int th, .long hh])), (b0, .inl (G.2.1.2, 344, .inr (.inl S2))), (b1, .inl (G.2.1.2, 1032, .inr (.inl P)))]) (lv' := [(2, .int 1), (1, .int at1), (0, .ref h0)]) (st' := [.long r_43, .int x_31, .ref b0]) rfl rfl rfl ?_
      refine sw_goto (pc := 86) (tgt := 108) F dX10_endsHour_86 (by decide) ?_
      obtain ⟨f_47, ef_47⟩ : ∃ y : Nat → Int64, y = vp_updL S2 (((md_at 63 7 24 S) + 2) + 1) r_43 := ⟨_, rfl⟩
      refine sw_last (pc := 108) (ws' := [(h0, .inr (10, [.ref b0, .ref b1, .int np, .int th, .long hh])), (b0, .inl (G.2.1.2, 344, .inr (.inl f_47))), (b1, .inl (G.2.1.2, 1032, .inr (.inl P)))]) F 1 rfl (by rw [ix_31]; exact vp_in_nI (by omega) (by decide)) dX10_endsHour_108 (by rw [ef_47, (show x_31.toNatClampNeg = ((md_at 63 7 24 S) + 2) + 1 by rw [ix_31]; exact nI_clamp (by omega))]; rfl) ?_
      have mf_47 : hI2 f_47 := by rw [ef_47]; exact hI2_u hm2 (by omega)
      refine sw_iinc (pc := 109) (v := 2) (lv' := [(2, .int 2), (1, .int at1), (0, .ref h0)]) F T.1 dX10_endsHour_109 (q := 0) rfl rfl (by decide) rfl ?_
      refine sw_goto (pc := 112) (tgt := 41) F dX10_endsHour_112 (by decide) ?_
      refine sw_lvs (is := [0, 1, 2]) (lv' := [(2, .int 2), (1, .int at1), (0, .ref h0)]) rfl ?_
      subst ef_47
      subst e_46
      subst ex_42
      subst ex_41
      subst ex_32
      subst ex_31
      subst ex_30
      subst hat1
      exact J3 _ (by rw [← hS2]; unfold g_X10_endsHour_2; rw [if_neg c_33]) (mf_47)
  have J1 : ∀ (S1 : Nat → Int64), S1 = (g_X10_endsHour_0 S) → hI2 S1 → SW G C 0 0 [(h0, .inr (10, [.ref b0, .ref b1, .int np, .int th, .long hh])), (b0, .inl (G.2.1.2, 344, .inr (.inl S1))), (b1, .inl (G.2.1.2, 1032, .inr (.inl P)))] [(2, .int 0), (1, .int (nI (md_at 63 7 24 S))), (0, .ref h0)] 41 [] := by
    intro S1 hS1 hm1
    obtain ⟨at1, hat1⟩ : ∃ z, z = nI (md_at 63 7 24 S) := ⟨_, rfl⟩
    rw [← hat1]
    refine sw_iload_n (pc := 41) F dX10_endsHour_41 rfl 0 rfl ?_
    refine sw_iconst (pc := 42) (v := 3) F dX10_endsHour_42 rfl ?_
    refine sw_icmp_ge (pc := 43) (tgt := 115) F dX10_endsHour_43 (by decide) (fun c => absurd c (by decide)) (fun _ => ?_)
    refine sw_aload_n (pc := 46) F dX10_endsHour_46 rfl 2 rfl ?_
    refine sw_get (pc := 47) (Cn := RX10) (T := TX10) (N := 5) (ci := 10) (v := .ref b0) F in10 0 rfl rfl 0 (by decide) rfl (List.mem_of_getElem? (i := 1) rfl) rfl dX10_endsHour_47 ?_
    refine sw_iload_n (pc := 50) F dX10_endsHour_50 rfl 1 rfl ?_
    refine sw_iconst (pc := 51) (v := 2) F dX10_endsHour_51 rfl ?_
    refine sw_iadd (pc := 52) F dX10_endsHour_52 ?_
    refine sw_topi (fun x_12 ex_12 => ?_)
    have ix_12 : x_12 = nI ((md_at 63 7 24 S) + 2) := by rw [ex_12, hat1]; exact nI_add (md_at 63 7 24 S) 2
    refine sw_iload_n (pc := 53) F dX10_endsHour_53 rfl 0 rfl ?_
    refine sw_iadd (pc := 54) F dX10_endsHour_54 ?_
    refine sw_topi (fun x_13 ex_13 => ?_)
    have ix_13 : x_13 = nI (((md_at 63 7 24 S) + 2) + 0) := by rw [ex_13, ix_12]; exact nI_add ((md_at 63 7 24 S) + 2) 0
    refine sw_aload_n (pc := 55) F dX10_endsHour_55 rfl 2 rfl ?_
    refine sw_get (pc := 56) (Cn := RX10) (T := TX10) (N := 5) (ci := 10) (v := .ref b0) F in10 0 rfl rfl 0 (by decide) rfl (List.mem_of_getElem? (i := 1) rfl) rfl dX10_endsHour_56 ?_
    refine sw_bipush (pc := 59) (v := 52) F dX10_endsHour_59 rfl ?_
    refine sw_lald (pc := 61) F 1 rfl (sw_in rfl) dX10_endsHour_61 ?_
    refine sw_naml (e := S1 52) rfl (fun x_14 ex_14 => ?_)
    refine sw_lconst (pc := 62) (v := 0) F dX10_endsHour_62 rfl ?_
    refine sw_lcmp_le (pc := 63) (tgt := 89) F dX10_endsHour_63 dX10_endsHour_64 (by decide) (fun c_15 => ?_) (fun c_15 => ?_)
    · skip
      refine sw_aload_n (pc := 89) F dX10_endsHour_89 rfl 2 rfl ?_
      refine sw_get (pc := 90) (Cn := RX10) (T := TX10) (N := 5) (ci := 10) (v := .ref b0) F in10 0 rfl rfl 0 (by decide) rfl (List.mem_of_getElem? (i := 1) rfl) rfl dX10_endsHour_90 ?_
      refine sw_bipush (pc := 93) (v := 56) F dX10_endsHour_93 rfl ?_
      refine sw_iload_n (pc := 95) F dX10_endsHour_95 rfl 0 rfl ?_
      refine sw_iadd (pc := 96) F dX10_endsHour_96 ?_
      refine sw_eqt (v := .int 56) (by rfl) ?_
      refine sw_lald (pc := 97) F 1 rfl (sw_in rfl) dX10_endsHour_97 ?_
      refine sw_naml (e := S1 56) rfl (fun x_16 ex_16 => ?_)
      refine sw_aload_n (pc := 98) F dX10_endsHour_98 rfl 2 rfl ?_
      refine sw_get (pc := 99) (Cn := RX10) (T := TX10) (N := 5) (ci := 10) (v := .ref b0) F in10 0 rfl rfl 0 (by decide) rfl (List.mem_of_getElem? (i := 1) rfl) rfl dX10_endsHour_99 ?_
      refine sw_bipush (pc := 102) (v := 59) F dX10_endsHour_102 rfl ?_
      refine sw_lald (pc := 104) F 1 rfl (sw_in rfl) dX10_endsHour_104 ?_
      refine sw_naml (e := S1 59) rfl (fun x_17 ex_17 => ?_)
      refine sw_calll (pc := 105) (wr := [(h0, .inr (10, [.ref b0, .ref b1, .int np, .int th, .long hh])), (b0, .inl (G.2.1.2, 344, .inr (.inl S1))), (b1, .inl (G.2.1.2, 1032, .inr (.inl P)))]) (k' := 0) (n' := 0) F (sw_runS (R := ({ frames := 2, cells := 0, slots := 0, locals := 46 } : Room)) (na := 2) F T.2.1 T.2.2.1 (k_X10_floor l G x_16 x_17 (by rw [ex_17]; exact nz_int (hm1).2)) [] rfl (by decide) gX10_endsHour_X10_floor rfl rfl rfl (by decide +kernel) ⟨Nat.le_of_ble_eq_true rfl, Nat.le_of_ble_eq_true rfl⟩ rfl rfl (Nat.le_of_ble_eq_true rfl) dX10_endsHour_105 (Nat.le_of_ble_eq_true rfl) (Nat.le_of_ble_eq_true rfl)) [] [0, 1, 2] rfl rfl (by decide) (by decide) rfl rfl (fun r_18 u_19 h_20 => ?_)
      have e_21 : r_18 = f_X10_floor_r x_16 x_17 := h_20
      refine sw_eq (ws' := [(h0, .inr (10, [.ref b0, .ref b1, .int np, .int th, .long hh])), (b0, .inl (G.2.1.2, 344, .inr (.inl S1))), (b1, .inl (G.2.1.2, 1032, .inr (.inl P)))]) (lv' := [(2, .int 0), (1, .int at1), (0, .ref h0)]) (st' := [.long r_18, .int x_13, .ref b0]) rfl rfl rfl ?_
      obtain ⟨f_22, ef_22⟩ : ∃ y : Nat → Int64, y = vp_updL S1 (((md_at 63 7 24 S) + 2) + 0) r_18 := ⟨_, rfl⟩
      refine sw_last (pc := 108) (ws' := [(h0, .inr (10, [.ref b0, .ref b1, .int np, .int th, .long hh])), (b0, .inl (G.2.1.2, 344, .inr (.inl f_22))), (b1, .inl (G.2.1.2, 1032, .inr (.inl P)))]) F 1 rfl (by rw [ix_13]; exact vp_in_nI (by omega) (by decide)) dX10_endsHour_108 (by rw [ef_22, (show x_13.toNatClampNeg = ((md_at 63 7 24 S) + 2) + 0 by rw [ix_13]; exact nI_clamp (by omega))]; rfl) ?_
      have mf_22 : hI2 f_22 := by rw [ef_22]; exact hI2_u hm1 (by omega)
      refine sw_iinc (pc := 109) (v := 1) (lv' := [(2, .int 1), (1, .int at1), (0, .ref h0)]) F T.1 dX10_endsHour_109 (q := 0) rfl rfl (by decide) rfl ?_
      refine sw_goto (pc := 112) (tgt := 41) F dX10_endsHour_112 (by decide) ?_
      refine sw_lvs (is := [0, 1, 2]) (lv' := [(2, .int 1), (1, .int at1), (0, .ref h0)]) rfl ?_
      subst ef_22
      subst e_21
      subst ex_17
      subst ex_16
      subst ex_14
      subst ex_13
      subst ex_12
      subst hat1
      exact J2 _ (by rw [← hS1]; unfold g_X10_endsHour_1; rw [if_pos c_15]) (mf_22)
    · skip
      refine sw_aload_n (pc := 67) F dX10_endsHour_67 rfl 2 rfl ?_
      refine sw_get (pc := 68) (Cn := RX10) (T := TX10) (N := 5) (ci := 10) (v := .ref b0) F in10 0 rfl rfl 0 (by decide) rfl (List.mem_of_getElem? (i := 1) rfl) rfl dX10_endsHour_68 ?_
      refine sw_bipush (pc := 71) (v := 53) F dX10_endsHour_71 rfl ?_
      refine sw_iload_n (pc := 73) F dX10_endsHour_73 rfl 0 rfl ?_
      refine sw_iadd (pc := 74) F dX10_endsHour_74 ?_
      refine sw_eqt (v := .int 53) (by rfl) ?_
      refine sw_lald (pc := 75) F 1 rfl (sw_in rfl) dX10_endsHour_75 ?_
      refine sw_naml (e := S1 53) rfl (fun x_23 ex_23 => ?_)
      refine sw_aload_n (pc := 76) F dX10_endsHour_76 rfl 2 rfl ?_
      refine sw_get (pc := 77) (Cn := RX10) (T := TX10) (N := 5) (ci := 10) (v := .ref b0) F in10 0 rfl rfl 0 (by decide) rfl (List.mem_of_getElem? (i := 1) rfl) rfl dX10_endsHour_77 ?_
      refine sw_bipush (pc := 80) (v := 52) F dX10_endsHour_80 rfl ?_
      refine sw_lald (pc := 82) F 1 rfl (sw_in rfl) dX10_endsHour_82 ?_
      refine sw_naml (e := S1 52) rfl (fun x_24 ex_24 => ?_)
      refine sw_calll (pc := 83) (wr := [(h0, .inr (10, [.ref b0, .ref b1, .int np, .int th, .long hh])), (b0, .inl (G.2.1.2, 344, .inr (.inl S1))), (b1, .inl (G.2.1.2, 1032, .inr (.inl P)))]) (k' := 0) (n' := 0) F (sw_runS (R := ({ frames := 2, cells := 0, slots := 0, locals := 46 } : Room)) (na := 2) F T.2.1 T.2.2.1 (k_X10_floor l G x_23 x_24 (by rw [ex_24, ← ex_14]; exact nz_pos c_15)) [] rfl (by decide) gX10_endsHour_X10_floor rfl rfl rfl (by decide +kernel) ⟨Nat.le_of_ble_eq_true rfl, Nat.le_of_ble_eq_true rfl⟩ rfl rfl (Nat.le_of_ble_eq_true rfl) dX10_endsHour_83 (Nat.le_of_ble_eq_true rfl) (Nat.le_of_ble_eq_true rfl)) [] [0, 1, 2] rfl rfl (by decide) (by decide) rfl rfl (fun r_25 u_26 h_27 => ?_)
      have e_28 : r_25 = f_X10_floor_r x_23 x_24 := h_27
      refine sw_eq (ws' := [(h0, .inr (10, [.ref b0, .ref b1, .int np, .int th, .long hh])), (b0, .inl (G.2.1.2, 344, .inr (.inl S1))), (b1, .inl (G.2.1.2, 1032, .inr (.inl P)))]) (lv' := [(2, .int 0), (1, .int at1), (0, .ref h0)]) (st' := [.long r_25, .int x_13, .ref b0]) rfl rfl rfl ?_
      refine sw_goto (pc := 86) (tgt := 108) F dX10_endsHour_86 (by decide) ?_
      obtain ⟨f_29, ef_29⟩ : ∃ y : Nat → Int64, y = vp_updL S1 (((md_at 63 7 24 S) + 2) + 0) r_25 := ⟨_, rfl⟩
      refine sw_last (pc := 108) (ws' := [(h0, .inr (10, [.ref b0, .ref b1, .int np, .int th, .long hh])), (b0, .inl (G.2.1.2, 344, .inr (.inl f_29))), (b1, .inl (G.2.1.2, 1032, .inr (.inl P)))]) F 1 rfl (by rw [ix_13]; exact vp_in_nI (by omega) (by decide)) dX10_endsHour_108 (by rw [ef_29, (show x_13.toNatClampNeg = ((md_at 63 7 24 S) + 2) + 0 by rw [ix_13]; exact nI_clamp (by omega))]; rfl) ?_
      have mf_29 : hI2 f_29 := by rw [ef_29]; exact hI2_u hm1 (by omega)
      refine sw_iinc (pc := 109) (v := 1) (lv' := [(2, .int 1), (1, .int at1), (0, .ref h0)]) F T.1 dX10_endsHour_109 (q := 0) rfl rfl (by decide) rfl ?_
      refine sw_goto (pc := 112) (tgt := 41) F dX10_endsHour_112 (by decide) ?_
      refine sw_lvs (is := [0, 1, 2]) (lv' := [(2, .int 1), (1, .int at1), (0, .ref h0)]) rfl ?_
      subst ef_29
      subst e_28
      subst ex_24
      subst ex_23
      subst ex_14
      subst ex_13
      subst ex_12
      subst hat1
      exact J2 _ (by rw [← hS1]; unfold g_X10_endsHour_1; rw [if_neg c_15]) (mf_29)
  refine sw_aload_n (pc := 0) F dX10_endsHour_0 rfl 0 rfl ?_
  refine sw_bipush (pc := 1) (v := 63) F dX10_endsHour_1 rfl ?_
  refine sw_bipush (pc := 3) (v := 7) F dX10_endsHour_3 rfl ?_
  refine sw_bipush (pc := 5) (v := 24) F dX10_endsHour_5 rfl ?_
  refine sw_calli (pc := 7) (wr := []) (k' := 0) (n' := 0) F (sw_runV (R := ({ frames := 2, cells := 0, slots := 0, locals := 46 } : Room)) (q0 := 0) (na := 3) F T.2.1 T.2.2.1 (k_X10_comes_63 l G h0 b0 b1 np th hh S P hc) [0, 1, 2] rfl (by decide) gX10_endsHour_X10_comes rfl rfl rfl (by decide +kernel) ⟨Nat.le_of_ble_eq_true rfl, Nat.le_of_ble_eq_true rfl⟩ rfl rfl rfl rfl rfl (Nat.le_of_ble_eq_true rfl) dX10_endsHour_7 (Nat.le_of_ble_eq_true rfl) (Nat.le_of_ble_eq_true rfl)) [0, 1, 2] [] rfl rfl (by decide) (by decide) rfl rfl (fun r_1 u_2 h_3 => ?_)
  obtain ⟨o_4, eu_2⟩ : ∃ z, z = u_2 := ⟨_, rfl⟩; subst eu_2
  obtain ⟨e_5, e_6⟩ : r_1 = nI (md_at 63 7 24 S) ∧ o_4 = md_comes 63 7 24 161 S := h_3
  have mo_4 : hI2 o_4 := by rw [e_6]; exact hI2_c hm
  refine sw_eq (ws' := [(h0, .inr (10, [.ref b0, .ref b1, .int np, .int th, .long hh])), (b0, .inl (G.2.1.2, 344, .inr (.inl o_4))), (b1, .inl (G.2.1.2, 1032, .inr (.inl P)))]) (lv' := [(0, .ref h0)]) (st' := [.int r_1]) rfl rfl rfl ?_
  refine sw_istore_n (pc := 10) (lv' := [(1, .int r_1), (0, .ref h0)]) F T.1 dX10_endsHour_10 rfl (by decide) rfl ?_
  refine sw_aload_n (pc := 11) F dX10_endsHour_11 rfl 1 rfl ?_
  refine sw_get (pc := 12) (Cn := RX10) (T := TX10) (N := 5) (ci := 10) (v := .ref b0) F in10 0 rfl rfl 0 (by decide) rfl (List.mem_of_getElem? (i := 1) rfl) rfl dX10_endsHour_12 ?_
  refine sw_iload_n (pc := 15) F dX10_endsHour_15 rfl 0 rfl ?_
  refine sw_aload_n (pc := 16) F dX10_endsHour_16 rfl 1 rfl ?_
  refine sw_get (pc := 17) (Cn := RX10) (T := TX10) (N := 5) (ci := 10) (v := .ref b0) F in10 0 rfl rfl 0 (by decide) rfl (List.mem_of_getElem? (i := 1) rfl) rfl dX10_endsHour_17 ?_
  refine sw_bipush (pc := 20) (v := 50) F dX10_endsHour_20 rfl ?_
  refine sw_lald (pc := 22) F 1 rfl (sw_in rfl) dX10_endsHour_22 ?_
  refine sw_naml (e := o_4 50) rfl (fun x_7 ex_7 => ?_)
  obtain ⟨f_8, ef_8⟩ : ∃ y : Nat → Int64, y = vp_updL o_4 (md_at 63 7 24 S) x_7 := ⟨_, rfl⟩
  refine sw_last (pc := 23) (ws' := [(h0, .inr (10, [.ref b0, .ref b1, .int np, .int th, .long hh])), (b0, .inl (G.2.1.2, 344, .inr (.inl f_8))), (b1, .inl (G.2.1.2, 1032, .inr (.inl P)))]) F 1 rfl (by rw [e_5]; exact vp_in_nI (by omega) (by decide)) dX10_endsHour_23 (by rw [ef_8, (show r_1.toNatClampNeg = md_at 63 7 24 S by rw [e_5]; exact nI_clamp (by omega))]; rfl) ?_
  have mf_8 : hI2 f_8 := by rw [ef_8]; exact hI2_u mo_4 (by omega)
  refine sw_aload_n (pc := 24) F dX10_endsHour_24 rfl 1 rfl ?_
  refine sw_get (pc := 25) (Cn := RX10) (T := TX10) (N := 5) (ci := 10) (v := .ref b0) F in10 0 rfl rfl 0 (by decide) rfl (List.mem_of_getElem? (i := 1) rfl) rfl dX10_endsHour_25 ?_
  refine sw_iload_n (pc := 28) F dX10_endsHour_28 rfl 0 rfl ?_
  refine sw_iconst (pc := 29) (v := 1) F dX10_endsHour_29 rfl ?_
  refine sw_iadd (pc := 30) F dX10_endsHour_30 ?_
  refine sw_topi (fun x_9 ex_9 => ?_)
  have ix_9 : x_9 = nI ((md_at 63 7 24 S) + 1) := by rw [ex_9, e_5]; exact nI_add (md_at 63 7 24 S) 1
  refine sw_aload_n (pc := 31) F dX10_endsHour_31 rfl 1 rfl ?_
  refine sw_get (pc := 32) (Cn := RX10) (T := TX10) (N := 5) (ci := 10) (v := .ref b0) F in10 0 rfl rfl 0 (by decide) rfl (List.mem_of_getElem? (i := 1) rfl) rfl dX10_endsHour_32 ?_
  refine sw_bipush (pc := 35) (v := 52) F dX10_endsHour_35 rfl ?_
  refine sw_lald (pc := 37) F 1 rfl (sw_in rfl) dX10_endsHour_37 ?_
  refine sw_naml (e := f_8 52) rfl (fun x_10 ex_10 => ?_)
  obtain ⟨f_11, ef_11⟩ : ∃ y : Nat → Int64, y = vp_updL f_8 ((md_at 63 7 24 S) + 1) x_10 := ⟨_, rfl⟩
  refine sw_last (pc := 38) (ws' := [(h0, .inr (10, [.ref b0, .ref b1, .int np, .int th, .long hh])), (b0, .inl (G.2.1.2, 344, .inr (.inl f_11))), (b1, .inl (G.2.1.2, 1032, .inr (.inl P)))]) F 1 rfl (by rw [ix_9]; exact vp_in_nI (by omega) (by decide)) dX10_endsHour_38 (by rw [ef_11, (show x_9.toNatClampNeg = (md_at 63 7 24 S) + 1 by rw [ix_9]; exact nI_clamp (by omega))]; rfl) ?_
  have mf_11 : hI2 f_11 := by rw [ef_11]; exact hI2_u mf_8 (by omega)
  refine sw_iconst (pc := 39) (v := 0) F dX10_endsHour_39 rfl ?_
  refine sw_istore_n (pc := 40) (lv' := [(2, .int 0), (1, .int r_1), (0, .ref h0)]) F T.1 dX10_endsHour_40 rfl (by decide) rfl ?_
  refine sw_lvs (is := [0, 1, 2]) (lv' := [(2, .int 0), (1, .int r_1), (0, .ref h0)]) rfl ?_
  subst ef_11
  subst ex_10
  subst ex_9
  subst ef_8
  subst ex_7
  subst e_6
  subst e_5
  exact J1 _ (by unfold g_X10_endsHour_0; rfl) (mf_11)
