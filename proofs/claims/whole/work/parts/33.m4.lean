theorem updL_ne {S : Nat → Int64} {j i : Nat} {x : Int64} (h : i ≠ j) : vp_updL S j x i = S i := pk_uLn h
/-- what the logs leave -/
theorem logs_lo {S : Nat → Int64} {q : Int32} {v : Int64} {j : Nat} (h : j < 253) : f_X10_logs_o1 S q v j = S j := by
  have hb : 253 + 1 ≤ md_at 253 3 30 S := by unfold md_at; omega
  unfold f_X10_logs_o1
  rw [updL_ne (by omega), updL_ne (by omega), updL_ne (by omega)]
  unfold md_comes
  rw [updL_ne (by omega)]
  split
  · unfold md_down
    rw [if_neg (by omega)]
  · rfl
theorem logs_c {S : Nat → Int64} {q : Int32} {v : Int64} (h : 0 ≤ (S 253).toInt ∧ (S 253).toInt ≤ 30) : 0 ≤ (f_X10_logs_o1 S q v 253).toInt ∧ (f_X10_logs_o1 S q v 253).toInt ≤ 30 := by
  have hb : 253 + 1 ≤ md_at 253 3 30 S := by unfold md_at; omega
  have hc := md_cn_le (b := 253) (most := 30) (S := S) (by decide) h.2
  unfold f_X10_logs_o1
  rw [updL_ne (by omega), updL_ne (by omega), updL_ne (by omega), md_comes_b, pk_lT (by omega)]
  omega
def mI (S : Nat → Int64) : Prop := (0 ≤ (S 253).toInt ∧ (S 253).toInt ≤ 30) ∧ ∀ t, t < 4 → 0 ≤ (S (10 + t)).toInt ∧ (S (10 + t)).toInt ≤ 8
theorem mI_u {S : Nat → Int64} {j : Nat} {x : Int64} (h : mI S) (hj : j ≠ 253 ∧ ¬ (10 ≤ j ∧ j < 14)) : mI (vp_updL S j x) := by
  refine ⟨by rw [updL_ne (by omega)]; exact h.1, fun t ht => ?_⟩
  rw [updL_ne (by omega)]
  exact h.2 t ht
theorem mI_l {S : Nat → Int64} {q : Int32} {v : Int64} (h : mI S) : mI (f_X10_logs_o1 S q v) := by
  refine ⟨logs_c h.1, fun t ht => ?_⟩
  rw [logs_lo (by omega)]
  exact h.2 t ht
theorem sh_nz {x : Int64} (h : 0 ≤ x.toInt ∧ x.toInt ≤ 8) : ¬ ((1 : Int64) <<< (x.toInt32.toInt64 &&& 63)) = 0 := by
  obtain ⟨k, hk, rfl⟩ : ∃ k : Nat, k ≤ 8 ∧ x = lN k := ⟨x.toInt.toNat, by omega, lN_of h.1⟩
  have hall : ∀ k, k < 9 → ¬ ((1 : Int64) <<< ((lN k).toInt32.toInt64 &&& 63)) = 0 := by decide +kernel
  exact hall k (by omega)
theorem rg_idx {x : Int64} (h : x = 0 ∨ x = 1) : x.toInt32 = nI x.toInt.toNat ∧ x.toInt.toNat < 2 := by
  rcases h with rfl | rfl <;> exact ⟨rfl, by decide⟩
theorem fb_nz {b : Int64} (hb : b.toInt ≤ 1000000) (hc : ¬ b ≤ 1) : ¬ 100 * b = 0 := by
  intro e
  rw [Int64.le_iff_toInt_le] at hc
  have k1 : (1 : Int64).toInt = 1 := rfl
  have k2 : (100 : Int64).toInt = 100 := rfl
  rw [k1] at hc
  have e2 : (100 * b).toInt = 100 * b.toInt := by rw [Kit.i64_mul (by rw [k2]; omega) (by rw [k2]; omega), k2]
  rw [e] at e2
  have k3 : (0 : Int64).toInt = 0 := rfl
  rw [k3] at e2
  omega
/-- the root of a number below 2^46 -/
theorem isq_lt {v : Int64} (h0 : 0 ≤ v.toInt) (h1 : v.toInt < 70368744177664) (hs : sqr v (isq v)) : 0 ≤ (isq v).toInt ∧ (isq v).toInt < 8388608 := by
  obtain ⟨a, b, c⟩ := hs
  refine ⟨a, ?_⟩
  rcases Int.lt_or_le (isq v).toInt 8388608 with h | h
  · exact h
  · have : (8388608 : Int) * 8388608 ≤ (isq v).toInt * (isq v).toInt := Int.mul_le_mul h h (by decide) a
    omega

def f_X10_factorAt_r (S : Nat → Int64) (a : Int64) : Int64 := if a < 30000 then (if 10000 ≤ a then (((S 35) + (f_X10_floor_r (((S 36) - (S 35)) * (a - 10000)) 20000))) else (if 3000 ≤ a then (((S 34) + (f_X10_floor_r (((S 35) - (S 34)) * (a - 3000)) 7000))) else (if 1000 ≤ a then (((S 33) + (f_X10_floor_r (((S 34) - (S 33)) * (a - 1000)) 2000))) else (((S 32) + (f_X10_floor_r (((S 33) - (S 32)) * (a - 0)) 1000)))))) else ((S 36))
set_option maxHeartbeats 4000000 in
set_option maxRecDepth 100000 in
theorem k_X10_factorAt (l : Launch) (G : sw_E) (h0 : Nat) (b0 : Nat) (b1 : Nat) (np : Int32) (th : Int32) (hh : Int64) (S : Nat → Int64) (P : Nat → Int64) (a : Int64) (hq : 0 ≤ a) : sw_M l G yX10_factorAt wsX10_factorAt ({ frames := 1, cells := 0, slots := 0, locals := 25 } : Room) [.ref h0, .long a] [(h0, .inr (10, [.ref b0, .ref b1, .int np, .int th, .long hh])), (b0, .inl (G.2.1.2, 344, .inr (.inl S))), (b1, .inl (G.2.1.2, 1032, .inr (.inl P)))] (sw_QL G (S := Unit) (fun (r : Int64) (_ : Unit) => r = f_X10_factorAt_r S a) (fun _ => [(h0, .inr (10, [.ref b0, .ref b1, .int np, .int th, .long hh])), (b0, .inl (G.2.1.2, 344, .inr (.inl S))), (b1, .inl (G.2.1.2, 1032, .inr (.inl P)))])) 0 0 := by
  refine sw_start (cc := cX10_factorAt) (maxL := 4) (ret := some .long) (lv := [(0, .ref h0), (1, .long a)]) (own := RX10) (nm := "factorAt") (by decide +kernel) rfl rfl rfl rfl (Nat.le_of_ble_eq_true rfl) (fun C F T => ?_)
  have in10 : ∀ w ∈ u_ws RX10 TX10 5, w ∈ wsX10_factorAt := fun w h => List.mem_cons_of_mem _ (List.mem_append_right _ (h))
  refine sw_lload_n (pc := 0) F dX10_factorAt_0 rfl 1 rfl ?_
  refine sw_ldc2 (pc := 1) (v := 30000) F (List.mem_of_getElem? (i := 1) rfl) dX10_factorAt_1 ?_
  refine sw_lcmp_lt (pc := 4) (tgt := 16) F dX10_factorAt_4 dX10_factorAt_5 (by decide) (fun c_1 => ?_) (fun c_1 => ?_)
  · skip
    refine sw_iconst (pc := 16) (v := 3) F dX10_factorAt_16 rfl ?_
    refine sw_istore_n (pc := 17) (lv' := [(3, .int 3), (0, .ref h0), (1, .long a)]) F T.1 dX10_factorAt_17 rfl (by decide) rfl ?_
    refine sw_iload_n (pc := 18) F dX10_factorAt_18 rfl 0 rfl ?_
    refine sw_calll (pc := 19) (wr := [(h0, .inr (10, [.ref b0, .ref b1, .int np, .int th, .long hh])), (b0, .inl (G.2.1.2, 344, .inr (.inl S))), (b1, .inl (G.2.1.2, 1032, .inr (.inl P)))]) (k' := 0) (n' := 0) F (sw_runS (R := ({ frames := 1, cells := 0, slots := 0, locals := 25 } : Room)) (na := 1) F T.2.1 T.2.2.1 (k_X10_flowAt_3 l G ) [] rfl (by decide) gX10_factorAt_X10_flowAt rfl rfl rfl (by decide +kernel) ⟨Nat.le_of_ble_eq_true rfl, Nat.le_of_ble_eq_true rfl⟩ rfl rfl (Nat.le_of_ble_eq_true rfl) dX10_factorAt_19 (Nat.le_of_ble_eq_true rfl) (Nat.le_of_ble_eq_true rfl)) [] [0, 1, 2] rfl rfl (by decide) (by decide) rfl rfl (fun r_2 u_3 h_4 => ?_)
    have e_5 : r_2 = 10000 := h_4
    refine sw_eqt (v := .long 10000) (by rw [e_5]) ?_
    refine sw_eq (ws' := [(h0, .inr (10, [.ref b0, .ref b1, .int np, .int th, .long hh])), (b0, .inl (G.2.1.2, 344, .inr (.inl S))), (b1, .inl (G.2.1.2, 1032, .inr (.inl P)))]) (lv' := [(3, .int 3), (0, .ref h0), (1, .long a)]) (st' := [.long 10000]) rfl rfl rfl ?_
    refine sw_lload_n (pc := 22) F dX10_factorAt_22 rfl 2 rfl ?_
    refine sw_lcmp_le (pc := 23) (tgt := 33) F dX10_factorAt_23 dX10_factorAt_24 (by decide) (fun c_6 => ?_) (fun c_6 => ?_)
    · skip
      refine sw_aload_n (pc := 33) F dX10_factorAt_33 rfl 1 rfl ?_
      refine sw_get (pc := 34) (Cn := RX10) (T := TX10) (N := 5) (ci := 10) (v := .ref b0) F in10 0 rfl rfl 0 (by decide) rfl (List.mem_of_getElem? (i := 2) rfl) rfl dX10_factorAt_34 ?_
      refine sw_bipush (pc := 37) (v := 32) F dX10_factorAt_37 rfl ?_
      refine sw_iload_n (pc := 39) F dX10_factorAt_39 rfl 0 rfl ?_
      refine sw_iadd (pc := 40) F dX10_factorAt_40 ?_
      refine sw_eqt (v := .int 35) (by rfl) ?_
      refine sw_lald (pc := 41) F 1 rfl (sw_in rfl) dX10_factorAt_41 ?_
      refine sw_naml (e := S 35) rfl (fun x_7 ex_7 => ?_)
      refine sw_aload_n (pc := 42) F dX10_factorAt_42 rfl 1 rfl ?_
      refine sw_get (pc := 43) (Cn := RX10) (T := TX10) (N := 5) (ci := 10) (v := .ref b0) F in10 0 rfl rfl 0 (by decide) rfl (List.mem_of_getElem? (i := 2) rfl) rfl dX10_factorAt_43 ?_
      refine sw_bipush (pc := 46) (v := 32) F dX10_factorAt_46 rfl ?_
      refine sw_iload_n (pc := 48) F dX10_factorAt_48 rfl 0 rfl ?_
      refine sw_iadd (pc := 49) F dX10_factorAt_49 ?_
      refine sw_eqt (v := .int 35) (by rfl) ?_
      refine sw_iconst (pc := 50) (v := 1) F dX10_factorAt_50 rfl ?_
      refine sw_iadd (pc := 51) F dX10_factorAt_51 ?_
      refine sw_eqt (v := .int 36) (by rfl) ?_
      refine sw_lald (pc := 52) F 1 rfl (sw_in rfl) dX10_factorAt_52 ?_
      refine sw_naml (e := S 36) rfl (fun x_8 ex_8 => ?_)
      refine sw_aload_n (pc := 53) F dX10_factorAt_53 rfl 1 rfl ?_
      refine sw_get (pc := 54) (Cn := RX10) (T := TX10) (N := 5) (ci := 10) (v := .ref b0) F in10 0 rfl rfl 0 (by decide) rfl (List.mem_of_getElem? (i := 2) rfl) rfl dX10_factorAt_54 ?_
      refine sw_bipush (pc := 57) (v := 32) F dX10_factorAt_57 rfl ?_
      refine sw_iload_n (pc := 59) F dX10_factorAt_59 rfl 0 rfl ?_
      refine sw_iadd (pc := 60) F dX10_factorAt_60 ?_
      refine sw_eqt (v := .int 35) (by rfl) ?_
      refine sw_lald (pc := 61) F 1 rfl (sw_in rfl) dX10_factorAt_61 ?_
      refine sw_naml (e := S 35) rfl (fun x_9 ex_9 => ?_)
      refine sw_lsub (pc := 62) F dX10_factorAt_62 ?_
      refine sw_topl (fun x_10 ex_10 => ?_)
      refine sw_lload_n (pc := 63) F dX10_factorAt_63 rfl 2 rfl ?_
      refine sw_iload_n (pc := 64) F dX10_factorAt_64 rfl 0 rfl ?_
      refine sw_calll (pc := 65) (wr := [(h0, .inr (10, [.ref b0, .ref b1, .int np, .int th, .long hh])), (b0, .inl (G.2.1.2, 344, .inr (.inl S))), (b1, .inl (G.2.1.2, 1032, .inr (.inl P)))]) (k' := 0) (n' := 0) F (sw_runS (R := ({ frames := 1, cells := 0, slots := 0, locals := 25 } : Room)) (na := 1) F T.2.1 T.2.2.1 (k_X10_flowAt_3 l G ) [] rfl (by decide) gX10_factorAt_X10_flowAt rfl rfl rfl (by decide +kernel) ⟨Nat.le_of_ble_eq_true rfl, Nat.le_of_ble_eq_true rfl⟩ rfl rfl (Nat.le_of_ble_eq_true rfl) dX10_factorAt_65 (Nat.le_of_ble_eq_true rfl) (Nat.le_of_ble_eq_true rfl)) [] [0, 1, 2] rfl rfl (by decide) (by decide) rfl rfl (fun r_11 u_12 h_13 => ?_)
      have e_14 : r_11 = 10000 := h_13
      refine sw_eqt (v := .long 10000) (by rw [e_14]) ?_
      refine sw_eq (ws' := [(h0, .inr (10, [.ref b0, .ref b1, .int np, .int th, .long hh])), (b0, .inl (G.2.1.2, 344, .inr (.inl S))), (b1, .inl (G.2.1.2, 1032, .inr (.inl P)))]) (lv' := [(3, .int 3), (0, .ref h0), (1, .long a)]) (st' := [.long 10000, .long a, .long x_10, .long x_7]) rfl rfl rfl ?_
      refine sw_lsub (pc := 68) F dX10_factorAt_68 ?_
      refine sw_topl (fun x_15 ex_15 => ?_)
      refine sw_lmul (pc := 69) F dX10_factorAt_69 ?_
      refine sw_topl (fun x_16 ex_16 => ?_)
      refine sw_iload_n (pc := 70) F dX10_factorAt_70 rfl 0 rfl ?_
      refine sw_iconst (pc := 71) (v := 1) F dX10_factorAt_71 rfl ?_
      refine sw_iadd (pc := 72) F dX10_factorAt_72 ?_
      refine sw_eqt (v := .int 4) (by rfl) ?_
      refine sw_calll (pc := 73) (wr := [(h0, .inr (10, [.ref b0, .ref b1, .int np, .int th, .long hh])), (b0, .inl (G.2.1.2, 344, .inr (.inl S))), (b1, .inl (G.2.1.2, 1032, .inr (.inl P)))]) (k' := 0) (n' := 0) F (sw_runS (R := ({ frames := 1, cells := 0, slots := 0, locals := 25 } : Room)) (na := 1) F T.2.1 T.2.2.1 (k_X10_flowAt_4 l G ) [] rfl (by decide) gX10_factorAt_X10_flowAt rfl rfl rfl (by decide +kernel) ⟨Nat.le_of_ble_eq_true rfl, Nat.le_of_ble_eq_true rfl⟩ rfl rfl (Nat.le_of_ble_eq_true rfl) dX10_factorAt_73 (Nat.le_of_ble_eq_true rfl) (Nat.le_of_ble_eq_true rfl)) [] [0, 1, 2] rfl rfl (by decide) (by decide) rfl rfl (fun r_17 u_18 h_19 => ?_)
      have e_20 : r_17 = 30000 := h_19
      refine sw_eqt (v := .long 30000) (by rw [e_20]) ?_
      refine sw_eq (ws' := [(h0, .inr (10, [.ref b0, .ref b1, .int np, .int th, .long hh])), (b0, .inl (G.2.1.2, 344, .inr (.inl S))), (b1, .inl (G.2.1.2, 1032, .inr (.inl P)))]) (lv' := [(3, .int 3), (0, .ref h0), (1, .long a)]) (st' := [.long 30000, .long x_16, .long x_7]) rfl rfl rfl ?_
      refine sw_iload_n (pc := 76) F dX10_factorAt_76 rfl 0 rfl ?_
      refine sw_calll (pc := 77) (wr := [(h0, .inr (10, [.ref b0, .ref b1, .int np, .int th, .long hh])), (b0, .inl (G.2.1.2, 344, .inr (.inl S))), (b1, .inl (G.2.1.2, 1032, .inr (.inl P)))]) (k' := 0) (n' := 0) F (sw_runS (R := ({ frames := 1, cells := 0, slots := 0, locals := 25 } : Room)) (na := 1) F T.2.1 T.2.2.1 (k_X10_flowAt_3 l G ) [] rfl (by decide) gX10_factorAt_X10_flowAt rfl rfl rfl (by decide +kernel) ⟨Nat.le_of_ble_eq_true rfl, Nat.le_of_ble_eq_true rfl⟩ rfl rfl (Nat.le_of_ble_eq_true rfl) dX10_factorAt_77 (Nat.le_of_ble_eq_true rfl) (Nat.le_of_ble_eq_true rfl)) [] [0, 1, 2] rfl rfl (by decide) (by decide) rfl rfl (fun r_21 u_22 h_23 => ?_)
      have e_24 : r_21 = 10000 := h_23
      refine sw_eqt (v := .long 10000) (by rw [e_24]) ?_
      refine sw_eq (ws' := [(h0, .inr (10, [.ref b0, .ref b1, .int np, .int th, .long hh])), (b0, .inl (G.2.1.2, 344, .inr (.inl S))), (b1, .inl (G.2.1.2, 1032, .inr (.inl P)))]) (lv' := [(3, .int 3), (0, .ref h0), (1, .long a)]) (st' := [.long 10000, .long 30000, .long x_16, .long x_7]) rfl rfl rfl ?_
      refine sw_lsub (pc := 80) F dX10_factorAt_80 ?_
      refine sw_eqt (v := .long 20000) (by rfl) ?_
      refine sw_calll (pc := 81) (wr := [(h0, .inr (10, [.ref b0, .ref b1, .int np, .int th, .long hh])), (b0, .inl (G.2.1.2, 344, .inr (.inl S))), (b1, .inl (G.2.1.2, 1032, .inr (.inl P)))]) (k' := 0) (n' := 0) F (sw_runS (R := ({ frames := 1, cells := 0, slots := 0, locals := 25 } : Room)) (na := 2) F T.2.1 T.2.2.1 (k_X10_floor l G x_16 20000 (by decide)) [] rfl (by decide) gX10_factorAt_X10_floor rfl rfl rfl (by decide +kernel) ⟨Nat.le_of_ble_eq_true rfl, Nat.le_of_ble_eq_true rfl⟩ rfl rfl (Nat.le_of_ble_eq_true rfl) dX10_factorAt_81 (Nat.le_of_ble_eq_true rfl) (Nat.le_of_ble_eq_true rfl)) [] [0, 1, 2] rfl rfl (by decide) (by decide) rfl rfl (fun r_25 u_26 h_27 => ?_)
      have e_28 : r_25 = f_X10_floor_r x_16 20000 := h_27
      refine sw_eq (ws' := [(h0, .inr (10, [.ref b0, .ref b1, .int np, .int th, .long hh])), (b0, .inl (G.2.1.2, 344, .inr (.inl S))), (b1, .inl (G.2.1.2, 1032, .inr (.inl P)))]) (lv' := [(3, .int 3), (0, .ref h0), (1, .long a)]) (st' := [.long r_25, .long x_7]) rfl rfl rfl ?_
      refine sw_ladd (pc := 84) F dX10_factorAt_84 ?_
      refine sw_topl (fun x_29 ex_29 => ?_)
      subst ex_29
      subst e_28
      subst ex_16
      subst ex_15
      subst ex_10
      subst ex_9
      subst ex_8
      subst ex_7
      exact sw_lret (pc := 85) F T () (by unfold f_X10_factorAt_r; rw [if_pos c_1, if_pos c_6]) rfl dX10_factorAt_85
    · skip
      refine sw_iinc (pc := 27) (v := 2) (lv' := [(3, .int 2), (0, .ref h0), (1, .long a)]) F T.1 dX10_factorAt_27 (q := 0) rfl rfl (by decide) rfl ?_
      refine sw_goto (pc := 30) (tgt := 18) F dX10_factorAt_30 (by decide) ?_
      refine sw_iload_n (pc := 18) F dX10_factorAt_18 rfl 0 rfl ?_
      refine sw_calll (pc := 19) (wr := [(h0, .inr (10, [.ref b0, .ref b1, .int np, .int th, .long hh])), (b0, .inl (G.2.1.2, 344, .inr (.inl S))), (b1, .inl (G.2.1.2, 1032, .inr (.inl P)))]) (k' := 0) (n' := 0) F (sw_runS (R := ({ frames := 1, cells := 0, slots := 0, locals := 25 } : Room)) (na := 1) F T.2.1 T.2.2.1 (k_X10_flowAt_2 l G ) [] rfl (by decide) gX10_factorAt_X10_flowAt rfl rfl rfl (by decide +kernel) ⟨Nat.le_of_ble_eq_true rfl, Nat.le_of_ble_eq_true rfl⟩ rfl rfl (Nat.le_of_ble_eq_true rfl) dX10_factorAt_19 (Nat.le_of_ble_eq_true rfl) (Nat.le_of_ble_eq_true rfl)) [] [0, 1, 2] rfl rfl (by decide) (by decide) rfl rfl (fun r_30 u_31 h_32 => ?_)
      have e_33 : r_30 = 3000 := h_32
      refine sw_eqt (v := .long 3000) (by rw [e_33]) ?_
      refine sw_eq (ws' := [(h0, .inr (10, [.ref b0, .ref b1, .int np, .int th, .long hh])), (b0, .inl (G.2.1.2, 344, .inr (.inl S))), (b1, .inl (G.2.1.2, 1032, .inr (.inl P)))]) (lv' := [(3, .int 2), (0, .ref h0), (1, .long a)]) (st' := [.long 3000]) rfl rfl rfl ?_
      refine sw_lload_n (pc := 22) F dX10_factorAt_22 rfl 2 rfl ?_
      refine sw_lcmp_le (pc := 23) (tgt := 33) F dX10_factorAt_23 dX10_factorAt_24 (by decide) (fun c_34 => ?_) (fun c_34 => ?_)
      · skip
        refine sw_aload_n (pc := 33) F dX10_factorAt_33 rfl 1 rfl ?_
        refine sw_get (pc := 34) (Cn := RX10) (T := TX10) (N := 5) (ci := 10) (v := .ref b0) F in10 0 rfl rfl 0 (by decide) rfl (List.mem_of_getElem? (i := 2) rfl) rfl dX10_factorAt_34 ?_
        refine sw_bipush (pc := 37) (v := 32) F dX10_factorAt_37 rfl ?_
        refine sw_iload_n (pc := 39) F dX10_factorAt_39 rfl 0 rfl ?_
        refine sw_iadd (pc := 40) F dX10_factorAt_40 ?_
        refine sw_eqt (v := .int 34) (by rfl) ?_
        refine sw_lald (pc := 41) F 1 rfl (sw_in rfl) dX10_factorAt_41 ?_
        refine sw_naml (e := S 34) rfl (fun x_35 ex_35 => ?_)
        refine sw_aload_n (pc := 42) F dX10_factorAt_42 rfl 1 rfl ?_
        refine sw_get (pc := 43) (Cn := RX10) (T := TX10) (N := 5) (ci := 10) (v := .ref b0) F in10 0 rfl rfl 0 (by decide) rfl (List.mem_of_getElem? (i := 2) rfl) rfl dX10_factorAt_43 ?_
        refine sw_bipush (pc := 46) (v := 32) F dX10_factorAt_46 rfl ?_
        refine sw_iload_n (pc := 48) F dX10_factorAt_48 rfl 0 rfl ?_
        refine sw_iadd (pc := 49) F dX10_factorAt_49 ?_
        refine sw_eqt (v := .int 34) (by rfl) ?_
        refine sw_iconst (pc := 50) (v := 1) F dX10_factorAt_50 rfl ?_
        refine sw_iadd (pc := 51) F dX10_factorAt_51 ?_
        refine sw_eqt (v := .int 35) (by rfl) ?_
        refine sw_lald (pc := 52) F 1 rfl (sw_in rfl) dX10_factorAt_52 ?_
        refine sw_naml (e := S 35) rfl (fun x_36 ex_36 => ?_)
        refine sw_aload_n (pc := 53) F dX10_factorAt_53 rfl 1 rfl ?_
        refine sw_get (pc := 54) (Cn := RX10) (T := TX10) (N := 5) (ci := 10) (v := .ref b0) F in10 0 rfl rfl 0 (by decide) rfl (List.mem_of_getElem? (i := 2) rfl) rfl dX10_factorAt_54 ?_
        refine sw_bipush (pc := 57) (v := 32) F dX10_factorAt_57 rfl ?_
        refine sw_iload_n (pc := 59) F dX10_factorAt_59 rfl 0 rfl ?_
        refine sw_iadd (pc := 60) F dX10_factorAt_60 ?_
        refine sw_eqt (v := .int 34) (by rfl) ?_
        refine sw_lald (pc := 61) F 1 rfl (sw_in rfl) dX10_factorAt_61 ?_
        refine sw_naml (e := S 34) rfl (fun x_37 ex_37 => ?_)
        refine sw_lsub (pc := 62) F dX10_factorAt_62 ?_
        refine sw_topl (fun x_38 ex_38 => ?_)
        refine sw_lload_n (pc := 63) F dX10_factorAt_63 rfl 2 rfl ?_
        refine sw_iload_n (pc := 64) F dX10_factorAt_64 rfl 0 rfl ?_
        refine sw_calll (pc := 65) (wr := [(h0, .inr (10, [.ref b0, .ref b1, .int np, .int th, .long hh])), (b0, .inl (G.2.1.2, 344, .inr (.inl S))), (b1, .inl (G.2.1.2, 1032, .inr (.inl P)))]) (k' := 0) (n' := 0) F (sw_runS (R := ({ frames := 1, cells := 0, slots := 0, locals := 25 } : Room)) (na := 1) F T.2.1 T.2.2.1 (k_X10_flowAt_2 l G ) [] rfl (by decide) gX10_factorAt_X10_flowAt rfl rfl rfl (by decide +kernel) ⟨Nat.le_of_ble_eq_true rfl, Nat.le_of_ble_eq_true rfl⟩ rfl rfl (Nat.le_of_ble_eq_true rfl) dX10_factorAt_65 (Nat.le_of_ble_eq_true rfl) (Nat.le_of_ble_eq_true rfl)) [] [0, 1, 2] rfl rfl (by decide) (by decide) rfl rfl (fun r_39 u_40 h_41 => ?_)
        have e_42 : r_39 = 3000 := h_41
        refine sw_eqt (v := .long 3000) (by rw [e_42]) ?_
        refine sw_eq (ws' := [(h0, .inr (10, [.ref b0, .ref b1, .int np, .int th, .long hh])), (b0, .inl (G.2.1.2, 344, .inr (.inl S))), (b1, .inl (G.2.1.2, 1032, .inr (.inl P)))]) (lv' := [(3, .int 2), (0, .ref h0), (1, .long a)]) (st' := [.long 3000, .long a, .long x_38, .long x_35]) rfl rfl rfl ?_
        refine sw_lsub (pc := 68) F dX10_factorAt_68 ?_
        refine sw_topl (fun x_43 ex_43 => ?_)
        refine sw_lmul (pc := 69) F dX10_factorAt_69 ?_
        refine sw_topl (fun x_44 ex_44 => ?_)
        refine sw_iload_n (pc := 70) F dX10_factorAt_70 rfl 0 rfl ?_
        refine sw_iconst (pc := 71) (v := 1) F dX10_factorAt_71 rfl ?_
        refine sw_iadd (pc := 72) F dX10_factorAt_72 ?_
        refine sw_eqt (v := .int 3) (by rfl) ?_
        refine sw_calll (pc := 73) (wr := [(h0, .inr (10, [.ref b0, .ref b1, .int np, .int th, .long hh])), (b0, .inl (G.2.1.2, 344, .inr (.inl S))), (b1, .inl (G.2.1.2, 1032, .inr (.inl P)))]) (k' := 0) (n' := 0) F (sw_runS (R := ({ frames := 1, cells := 0, slots := 0, locals := 25 } : Room)) (na := 1) F T.2.1 T.2.2.1 (k_X10_flowAt_3 l G ) [] rfl (by decide) gX10_factorAt_X10_flowAt rfl rfl rfl (by decide +kernel) ⟨Nat.le_of_ble_eq_true rfl, Nat.le_of_ble_eq_true rfl⟩ rfl rfl (Nat.le_of_ble_eq_true rfl) dX10_factorAt_73 (Nat.le_of_ble_eq_true rfl) (Nat.le_of_ble_eq_true rfl)) [] [0, 1, 2] rfl rfl (by decide) (by decide) rfl rfl (fun r_45 u_46 h_47 => ?_)
        have e_48 : r_45 = 10000 := h_47
        refine sw_eqt (v := .long 10000) (by rw [e_48]) ?_
        refine sw_eq (ws' := [(h0, .inr (10, [.ref b0, .ref b1, .int np, .int th, .long hh])), (b0, .inl (G.2.1.2, 344, .inr (.inl S))), (b1, .inl (G.2.1.2, 1032, .inr (.inl P)))]) (lv' := [(3, .int 2), (0, .ref h0), (1, .long a)]) (st' := [.long 10000, .long x_44, .long x_35]) rfl rfl rfl ?_
        refine sw_iload_n (pc := 76) F dX10_factorAt_76 rfl 0 rfl ?_
        refine sw_calll (pc := 77) (wr := [(h0, .inr (10, [.ref b0, .ref b1, .int np, .int th, .long hh])), (b0, .inl (G.2.1.2, 344, .inr (.inl S))), (b1, .inl (G.2.1.2, 1032, .inr (.inl P)))]) (k' := 0) (n' := 0) F (sw_runS (R := ({ frames := 1, cells := 0, slots := 0, locals := 25 } : Room)) (na := 1) F T.2.1 T.2.2.1 (k_X10_flowAt_2 l G ) [] rfl (by decide) gX10_factorAt_X10_flowAt rfl rfl rfl (by decide +kernel) ⟨Nat.le_of_ble_eq_true rfl, Nat.le_of_ble_eq_true rfl⟩ rfl rfl (Nat.le_of_ble_eq_true rfl) dX10_factorAt_77 (Nat.le_of_ble_eq_true rfl) (Nat.le_of_ble_eq_true rfl)) [] [0, 1, 2] rfl rfl (by decide) (by decide) rfl rfl (fun r_49 u_50 h_51 => ?_)
        have e_52 : r_49 = 3000 := h_51
        refine sw_eqt (v := .long 3000) (by rw [e_52]) ?_
        refine sw_eq (ws' := [(h0, .inr (10, [.ref b0, .ref b1, .int np, .int th, .long hh])), (b0, .inl (G.2.1.2, 344, .inr (.inl S))), (b1, .inl (G.2.1.2, 1032, .inr (.inl P)))]) (lv' := [(3, .int 2), (0, .ref h0), (1, .long a)]) (st' := [.long 3000, .long 10000, .long x_44, .long x_35]) rfl rfl rfl ?_
        refine sw_lsub (pc := 80) F dX10_factorAt_80 ?_
        refine sw_eqt (v := .long 7000) (by rfl) ?_
        refine sw_calll (pc := 81) (wr := [(h0, .inr (10, [.ref b0, .ref b1, .int np, .int th, .long hh])), (b0, .inl (G.2.1.2, 344, .inr (.inl S))), (b1, .inl (G.2.1.2, 1032, .inr (.inl P)))]) (k' := 0) (n' := 0) F (sw_runS (R := ({ frames := 1, cells := 0, slots := 0, locals := 25 } : Room)) (na := 2) F T.2.1 T.2.2.1 (k_X10_floor l G x_44 7000 (by decide)) [] rfl (by decide) gX10_factorAt_X10_floor rfl rfl rfl (by decide +kernel) ⟨Nat.le_of_ble_eq_true rfl, Nat.le_of_ble_eq_true rfl⟩ rfl rfl (Nat.le_of_ble_eq_true rfl) dX10_factorAt_81 (Nat.le_of_ble_eq_true rfl) (Nat.le_of_ble_eq_true rfl)) [] [0, 1, 2] rfl rfl (by decide) (by decide) rfl rfl (fun r_53 u_54 h_55 => ?_)
        have e_56 : r_53 = f_X10_floor_r x_44 7000 := h_55
        refine sw_eq (ws' := [(h0, .inr (10, [.ref b0, .ref b1, .int np, .int th, .long hh])), (b0, .inl (G.2.1.2, 344, .inr (.inl S))), (b1, .inl (G.2.1.2, 1032, .inr (.inl P)))]) (lv' := [(3, .int 2), (0, .ref h0), (1, .long a)]) (st' := [.long r_53, .long x_35]) rfl rfl rfl ?_
        refine sw_ladd (pc := 84) F dX10_factorAt_84 ?_
        refine sw_topl (fun x_57 ex_57 => ?_)
        subst ex_57
        subst e_56
        subst ex_44
        subst ex_43
        subst ex_38
        subst ex_37
        subst ex_36
        subst ex_35
        exact sw_lret (pc := 85) F T () (by unfold f_X10_factorAt_r; rw [if_pos c_1, if_neg c_6, if_pos c_34]) rfl dX10_factorAt_85
      · skip
        refine sw_iinc (pc := 27) (v := 1) (lv' := [(3, .int 1), (0, .ref h0), (1, .long a)]) F T.1 dX10_factorAt_27 (q := 0) rfl rfl (by decide) rfl ?_
        refine sw_goto (pc := 30) (tgt := 18) F dX10_factorAt_30 (by decide) ?_
        refine sw_iload_n (pc := 18) F dX10_factorAt_18 rfl 0 rfl ?_
        refine sw_calll (pc := 19) (wr := [(h0, .inr (10, [.ref b0, .ref b1, .int np, .int th, .long hh])), (b0, .inl (G.2.1.2, 344, .inr (.inl S))), (b1, .inl (G.2.1.2, 1032, .inr (.inl P)))]) (k' := 0) (n' := 0) F (sw_runS (R := ({ frames := 1, cells := 0, slots := 0, locals := 25 } : Room)) (na := 1) F T.2.1 T.2.2.1 (k_X10_flowAt_1 l G ) [] rfl (by decide) gX10_factorAt_X10_flowAt rfl rfl rfl (by decide +kernel) ⟨Nat.le_of_ble_eq_true rfl, Nat.le_of_ble_eq_true rfl⟩ rfl rfl (Nat.le_of_ble_eq_true rfl) dX10_factorAt_19 (Nat.le_of_ble_eq_true rfl) (Nat.le_of_ble_eq_true rfl)) [] [0, 1, 2] rfl rfl (by decide) (by decide) rfl rfl (fun r_58 u_59 h_60 => ?_)
        have e_61 : r_58 = 1000 := h_60
        refine sw_eqt (v := .long 1000) (by rw [e_61]) ?_
        refine sw_eq (ws' := [(h0, .inr (10, [.ref b0, .ref b1, .int np, .int th, .long hh])), (b0, .inl (G.2.1.2, 344, .inr (.inl S))), (b1, .inl (G.2.1.2, 1032, .inr (.inl P)))]) (lv' := [(3, .int 1), (0, .ref h0), (1, .long a)]) (st' := [.long 1000]) rfl rfl rfl ?_
        refine sw_lload_n (pc := 22) F dX10_factorAt_22 rfl 2 rfl ?_
        refine sw_lcmp_le (pc := 23) (tgt := 33) F dX10_factorAt_23 dX10_factorAt_24 (by decide) (fun c_62 => ?_) (fun c_62 => ?_)
        · skip
          refine sw_aload_n (pc := 33) F dX10_factorAt_33 rfl 1 rfl ?_
          refine sw_get (pc := 34) (Cn := RX10) (T := TX10) (N := 5) (ci := 10) (v := .ref b0) F in10 0 rfl rfl 0 (by decide) rfl (List.mem_of_getElem? (i := 2) rfl) rfl dX10_factorAt_34 ?_
          refine sw_bipush (pc := 37) (v := 32) F dX10_factorAt_37 rfl ?_
          refine sw_iload_n (pc := 39) F dX10_factorAt_39 rfl 0 rfl ?_
          refine sw_iadd (pc := 40) F dX10_factorAt_40 ?_
          refine sw_eqt (v := .int 33) (by rfl) ?_
          refine sw_lald (pc := 41) F 1 rfl (sw_in rfl) dX10_factorAt_41 ?_
          refine sw_naml (e := S 33) rfl (fun x_63 ex_63 => ?_)
          refine sw_aload_n (pc := 42) F dX10_factorAt_42 rfl 1 rfl ?_
          refine sw_get (pc := 43) (Cn := RX10) (T := TX10) (N := 5) (ci := 10) (v := .ref b0) F in10 0 rfl rfl 0 (by decide) rfl (List.mem_of_getElem? (i := 2) rfl) rfl dX10_factorAt_43 ?_
          refine sw_bipush (pc := 46) (v := 32) F dX10_factorAt_46 rfl ?_
          refine sw_iload_n (pc := 48) F dX10_factorAt_48 rfl 0 rfl ?_
          refine sw_iadd (pc := 49) F dX10_factorAt_49 ?_
          refine sw_eqt (v := .int 33) (by rfl) ?_
          refine sw_iconst (pc := 50) (v := 1) F dX10_factorAt_50 rfl ?_
          refine sw_iadd (pc := 51) F dX10_factorAt_51 ?_
          refine sw_eqt (v := .int 34) (by rfl) ?_
          refine sw_lald (pc := 52) F 1 rfl (sw_in rfl) dX10_factorAt_52 ?_
          refine sw_naml (e := S 34) rfl (fun x_64 ex_64 => ?_)
          refine sw_aload_n (pc := 53) F dX10_factorAt_53 rfl 1 rfl ?_
          refine sw_get (pc := 54) (Cn := RX10) (T := TX10) (N := 5) (ci := 10) (v := .ref b0) F in10 0 rfl rfl 0 (by decide) rfl (List.mem_of_getElem? (i := 2) rfl) rfl dX10_factorAt_54 ?_
          refine sw_bipush (pc := 57) (v := 32) F dX10_factorAt_57 rfl ?_
          refine sw_iload_n (pc := 59) F dX10_factorAt_59 rfl 0 rfl ?_
          refine sw_iadd (pc := 60) F dX10_factorAt_60 ?_
          refine sw_eqt (v := .int 33) (by rfl) ?_
          refine sw_lald (pc := 61) F 1 rfl (sw_in rfl) dX10_factorAt_61 ?_
          refine sw_naml (e := S 33) rfl (fun x_65 ex_65 => ?_)
          refine sw_lsub (pc := 62) F dX10_factorAt_62 ?_
          refine sw_topl (fun x_66 ex_66 => ?_)
          refine sw_lload_n (pc := 63) F dX10_factorAt_63 rfl 2 rfl ?_
          refine sw_iload_n (pc := 64) F dX10_factorAt_64 rfl 0 rfl ?_
          refine sw_calll (pc := 65) (wr := [(h0, .inr (10, [.ref b0, .ref b1, .int np, .int th, .long hh])), (b0, .inl (G.2.1.2, 344, .inr (.inl S))), (b1, .inl (G.2.1.2, 1032, .inr (.inl P)))]) (k' := 0) (n' := 0) F (sw_runS (R := ({ frames := 1, cells := 0, slots := 0, locals := 25 } : Room)) (na := 1) F T.2.1 T.2.2.1 (k_X10_flowAt_1 l G ) [] rfl (by decide) gX10_factorAt_X10_flowAt rfl rfl rfl (by decide +kernel) ⟨Nat.le_of_ble_eq_true rfl, Nat.le_of_ble_eq_true rfl⟩ rfl rfl (Nat.le_of_ble_eq_true rfl) dX10_factorAt_65 (Nat.le_of_ble_eq_true rfl) (Nat.le_of_ble_eq_true rfl)) [] [0, 1, 2] rfl rfl (by decide) (by decide) rfl rfl (fun r_67 u_68 h_69 => ?_)
          have e_70 : r_67 = 1000 := h_69
          refine sw_eqt (v := .long 1000) (by rw [e_70]) ?_
          refine sw_eq (ws' := [(h0, .inr (10, [.ref b0, .ref b1, .int np, .int th, .long hh])), (b0, .inl (G.2.1.2, 344, .inr (.inl S))), (b1, .inl (G.2.1.2, 1032, .inr (.inl P)))]) (lv' := [(3, .int 1), (0, .ref h0), (1, .long a)]) (st' := [.long 1000, .long a, .long x_66, .long x_63]) rfl rfl rfl ?_
          refine sw_lsub (pc := 68) F dX10_factorAt_68 ?_
          refine sw_topl (fun x_71 ex_71 => ?_)
          refine sw_lmul (pc := 69) F dX10_factorAt_69 ?_
          refine sw_topl (fun x_72 ex_72 => ?_)
          refine sw_iload_n (pc := 70) F dX10_factorAt_70 rfl 0 rfl ?_
          refine sw_iconst (pc := 71) (v := 1) F dX10_factorAt_71 rfl ?_
          refine sw_iadd (pc := 72) F dX10_factorAt_72 ?_
          refine sw_eqt (v := .int 2) (by rfl) ?_
          refine sw_calll (pc := 73) (wr := [(h0, .inr (10, [.ref b0, .ref b1, .int np, .int th, .long hh])), (b0, .inl (G.2.1.2, 344, .inr (.inl S))), (b1, .inl (G.2.1.2, 1032, .inr (.inl P)))]) (k' := 0) (n' := 0) F (sw_runS (R := ({ frames := 1, cells := 0, slots := 0, locals := 25 } : Room)) (na := 1) F T.2.1 T.2.2.1 (k_X10_flowAt_2 l G ) [] rfl (by decide) gX10_factorAt_X10_flowAt rfl rfl rfl (by decide +kernel) ⟨Nat.le_of_ble_eq_true rfl, Nat.le_of_ble_eq_true rfl⟩ rfl rfl (Nat.le_of_ble_eq_true rfl) dX10_factorAt_73 (Nat.le_of_ble_eq_true rfl) (Nat.le_of_ble_eq_true rfl)) [] [0, 1, 2] rfl rfl (by decide) (by decide) rfl rfl (fun r_73 u_74 h_75 => ?_)
          have e_76 : r_73 = 3000 := h_75
          refine sw_eqt (v := .long 3000) (by rw [e_76]) ?_
          refine sw_eq (ws' := [(h0, .inr (10, [.ref b0, .ref b1, .int np, .int th, .long hh])), (b0, .inl (G.2.1.2, 344, .inr (.inl S))), (b1, .inl (G.2.1.2, 1032, .inr (.inl P)))]) (lv' := [(3, .int 1), (0, .ref h0), (1, .long a)]) (st' := [.long 3000, .long x_72, .long x_63]) rfl rfl rfl ?_
          refine sw_iload_n (pc := 76) F dX10_factorAt_76 rfl 0 rfl ?_
          refine sw_calll (pc := 77) (wr := [(h0, .inr (10, [.ref b0, .ref b1, .int np, .int th, .long hh])), (b0, .inl (G.2.1.2, 344, .inr (.inl S))), (b1, .inl (G.2.1.2, 1032, .inr (.inl P)))]) (k' := 0) (n' := 0) F (sw_runS (R := ({ frames := 1, cells := 0, slots := 0, locals := 25 } : Room)) (na := 1) F T.2.1 T.2.2.1 (k_X10_flowAt_1 l G ) [] rfl (by decide) gX10_factorAt_X10_flowAt rfl rfl rfl (by decide +kernel) ⟨Nat.le_of_ble_eq_true rfl, Nat.le_of_ble_eq_true rfl⟩ rfl rfl (Nat.le_of_ble_eq_true rfl) dX10_factorAt_77 (Nat.le_of_ble_eq_true rfl) (Nat.le_of_ble_eq_true rfl)) [] [0, 1, 2] rfl rfl (by decide) (by decide) rfl rfl (fun r_77 u_78 h_79 => ?_)
          have e_80 : r_77 = 1000 := h_79
          refine sw_eqt (v := .long 1000) (by rw [e_80]) ?_
          refine sw_eq (ws' := [(h0, .inr (10, [.ref b0, .ref b1, .int np, .int th, .long hh])), (b0, .inl (G.2.1.2, 344, .inr (.inl S))), (b1, .inl (G.2.1.2, 1032, .inr (.inl P)))]) (lv' := [(3, .int 1), (0, .ref h0), (1, .long a)]) (st' := [.long 1000, .long 3000, .long x_72, .long x_63]) rfl rfl rfl ?_
          refine sw_lsub (pc := 80) F dX10_factorAt_80 ?_
          refine sw_eqt (v := .long 2000) (by rfl) ?_
          refine sw_calll (pc := 81) (wr := [(h0, .inr (10, [.ref b0, .ref b1, .int np, .int th, .long hh])), (b0, .inl (G.2.1.2, 344, .inr (.inl S))), (b1, .inl (G.2.1.2, 1032, .inr (.inl P)))]) (k' := 0) (n' := 0) F (sw_runS (R := ({ frames := 1, cells := 0, slots := 0, locals := 25 } : Room)) (na := 2) F T.2.1 T.2.2.1 (k_X10_floor l G x_72 2000 (by decide)) [] rfl (by decide) gX10_factorAt_X10_floor rfl rfl rfl (by decide +kernel) ⟨Nat.le_of_ble_eq_true rfl, Nat.le_of_ble_eq_true rfl⟩ rfl rfl (Nat.le_of_ble_eq_true rfl) dX10_factorAt_81 (Nat.le_of_ble_eq_true rfl) (Nat.le_of_ble_eq_true rfl)) [] [0, 1, 2] rfl rfl (by decide) (by decide) rfl rfl (fun r_81 u_82 h_83 => ?_)
          have e_84 : r_81 = f_X10_floor_r x_72 2000 := h_83
          refine sw_eq (ws' := [(h0, .inr (10, [.ref b0, .ref b1, .int np, .int th, .long hh])), (b0, .inl (G.2.1.2, 344, .inr (.inl S))), (b1, .inl (G.2.1.2, 1032, .inr (.inl P)))]) (lv' := [(3, .int 1), (0, .ref h0), (1, .long a)]) (st' := [.long r_81, .long x_63]) rfl rfl rfl ?_
          refine sw_ladd (pc := 84) F dX10_factorAt_84 ?_
          refine sw_topl (fun x_85 ex_85 => ?_)
          subst ex_85
          subst e_84
          subst ex_72
          subst ex_71
          subst ex_66
          subst ex_65
          subst ex_64
          subst ex_63
          exact sw_lret (pc := 85) F T () (by unfold f_X10_factorAt_r; rw [if_pos c_1, if_neg c_6, if_neg c_34, if_pos c_62]) rfl dX10_factorAt_85
        · skip
          refine sw_iinc (pc := 27) (v := 0) (lv' := [(3, .int 0), (0, .ref h0), (1, .long a)]) F T.1 dX10_factorAt_27 (q := 0) rfl rfl (by decide) rfl ?_
          refine sw_goto (pc := 30) (tgt := 18) F dX10_factorAt_30 (by decide) ?_
          refine sw_iload_n (pc := 18) F dX10_factorAt_18 rfl 0 rfl ?_
          refine sw_calll (pc := 19) (wr := [(h0, .inr (10, [.ref b0, .ref b1, .int np, .int th, .long hh])), (b0, .inl (G.2.1.2, 344, .inr (.inl S))), (b1, .inl (G.2.1.2, 1032, .inr (.inl P)))]) (k' := 0) (n' := 0) F (sw_runS (R := ({ frames := 1, cells := 0, slots := 0, locals := 25 } : Room)) (na := 1) F T.2.1 T.2.2.1 (k_X10_flowAt_0 l G ) [] rfl (by decide) gX10_factorAt_X10_flowAt rfl rfl rfl (by decide +kernel) ⟨Nat.le_of_ble_eq_true rfl, Nat.le_of_ble_eq_true rfl⟩ rfl rfl (Nat.le_of_ble_eq_true rfl) dX10_factorAt_19 (Nat.le_of_ble_eq_true rfl) (Nat.le_of_ble_eq_true rfl)) [] [0, 1, 2] rfl rfl (by decide) (by decide) rfl rfl (fun r_86 u_87 h_88 => ?_)
          have e_89 : r_86 = 0 := h_88
          refine sw_eqt (v := .long 0) (by rw [e_89]) ?_
          refine sw_eq (ws' := [(h0, .inr (10, [.ref b0, .ref b1, .int np, .int th, .long hh])), (b0, .inl (G.2.1.2, 344, .inr (.inl S))), (b1, .inl (G.2.1.2, 1032, .inr (.inl P)))]) (lv' := [(3, .int 0), (0, .ref h0), (1, .long a)]) (st' := [.long 0]) rfl rfl rfl ?_
          refine sw_lload_n (pc := 22) F dX10_factorAt_22 rfl 2 rfl ?_
          refine sw_lcmp_le (pc := 23) (tgt := 33) F dX10_factorAt_23 dX10_factorAt_24 (by decide) (fun _ => ?_) (fun c => absurd hq c)
          refine sw_aload_n (pc := 33) F dX10_factorAt_33 rfl 1 rfl ?_
          refine sw_get (pc := 34) (Cn := RX10) (T := TX10) (N := 5) (ci := 10) (v := .ref b0) F in10 0 rfl rfl 0 (by decide) rfl (List.mem_of_getElem? (i := 2) rfl) rfl dX10_factorAt_34 ?_
          refine sw_bipush (pc := 37) (v := 32) F dX10_factorAt_37 rfl ?_
          refine sw_iload_n (pc := 39) F dX10_factorAt_39 rfl 0 rfl ?_
          refine sw_iadd (pc := 40) F dX10_factorAt_40 ?_
          refine sw_eqt (v := .int 32) (by rfl) ?_
          refine sw_lald (pc := 41) F 1 rfl (sw_in rfl) dX10_factorAt_41 ?_
          refine sw_naml (e := S 32) rfl (fun x_90 ex_90 => ?_)
          refine sw_aload_n (pc := 42) F dX10_factorAt_42 rfl 1 rfl ?_
          refine sw_get (pc := 43) (Cn := RX10) (T := TX10) (N := 5) (ci := 10) (v := .ref b0) F in10 0 rfl rfl 0 (by decide) rfl (List.mem_of_getElem? (i := 2) rfl) rfl dX10_factorAt_43 ?_
          refine sw_bipush (pc := 46) (v := 32) F dX10_factorAt_46 rfl ?_
          refine sw_iload_n (pc := 48) F dX10_factorAt_48 rfl 0 rfl ?_
          refine sw_iadd (pc := 49) F dX10_factorAt_49 ?_
          refine sw_eqt (v := .int 32) (by rfl) ?_
          refine sw_iconst (pc := 50) (v := 1) F dX10_factorAt_50 rfl ?_
          refine sw_iadd (pc := 51) F dX10_factorAt_51 ?_
          refine sw_eqt (v := .int 33) (by rfl) ?_
          refine sw_lald (pc := 52) F 1 rfl (sw_in rfl) dX10_factorAt_52 ?_
          refine sw_naml (e := S 33) rfl (fun x_91 ex_91 => ?_)
          refine sw_aload_n (pc := 53) F dX10_factorAt_53 rfl 1 rfl ?_
          refine sw_get (pc := 54) (Cn := RX10) (T := TX10) (N := 5) (ci := 10) (v := .ref b0) F in10 0 rfl rfl 0 (by decide) rfl (List.mem_of_getElem? (i := 2) rfl) rfl dX10_factorAt_54 ?_
          refine sw_bipush (pc := 57) (v := 32) F dX10_factorAt_57 rfl ?_
          refine sw_iload_n (pc := 59) F dX10_factorAt_59 rfl 0 rfl ?_
          refine sw_iadd (pc := 60) F dX10_factorAt_60 ?_
          refine sw_eqt (v := .int 32) (by rfl) ?_
          refine sw_lald (pc := 61) F 1 rfl (sw_in rfl) dX10_factorAt_61 ?_
          refine sw_naml (e := S 32) rfl (fun x_92 ex_92 => ?_)
          refine sw_lsub (pc := 62) F dX10_factorAt_62 ?_
          refine sw_topl (fun x_93 ex_93 => ?_)
          refine sw_lload_n (pc := 63) F dX10_factorAt_63 rfl 2 rfl ?_
          refine sw_iload_n (pc := 64) F dX10_factorAt_64 rfl 0 rfl ?_
          refine sw_calll (pc := 65) (wr := [(h0, .inr (10, [.ref b0, .ref b1, .int np, .int th, .long hh])), (b0, .inl (G.2.1.2, 344, .inr (.inl S))), (b1, .inl (G.2.1.2, 1032, .inr (.inl P)))]) (k' := 0) (n' := 0) F (sw_runS (R := ({ frames := 1, cells := 0, slots := 0, locals := 25 } : Room)) (na := 1) F T.2.1 T.2.2.1 (k_X10_flowAt_0 l G ) [] rfl (by decide) gX10_factorAt_X10_flowAt rfl rfl rfl (by decide +kernel) ⟨Nat.le_of_ble_eq_true rfl, Nat.le_of_ble_eq_true rfl⟩ rfl rfl (Nat.le_of_ble_eq_true rfl) dX10_factorAt_65 (Nat.le_of_ble_eq_true rfl) (Nat.le_of_ble_eq_true rfl)) [] [0, 1, 2] rfl rfl (by decide) (by decide) rfl rfl (fun r_94 u_95 h_96 => ?_)
          have e_97 : r_94 = 0 := h_96
          refine sw_eqt (v := .long 0) (by rw [e_97]) ?_
          refine sw_eq (ws' := [(h0, .inr (10, [.ref b0, .ref b1, .int np, .int th, .long hh])), (b0, .inl (G.2.1.2, 344, .inr (.inl S))), (b1, .inl (G.2.1.2, 1032, .inr (.inl P)))]) (lv' := [(3, .int 0), (0, .ref h0), (1, .long a)]) (st' := [.long 0, .long a, .long x_93, .long x_90]) rfl rfl rfl ?_
          refine sw_lsub (pc := 68) F dX10_factorAt_68 ?_
          refine sw_topl (fun x_98 ex_98 => ?_)
          refine sw_lmul (pc := 69) F dX10_factorAt_69 ?_
          refine sw_topl (fun x_99 ex_99 => ?_)
          refine sw_iload_n (pc := 70) F dX10_factorAt_70 rfl 0 rfl ?_
          refine sw_iconst (pc := 71) (v := 1) F dX10_factorAt_71 rfl ?_
          refine sw_iadd (pc := 72) F dX10_factorAt_72 ?_
          refine sw_eqt (v := .int 1) (by rfl) ?_
          refine sw_calll (pc := 73) (wr := [(h0, .inr (10, [.ref b0, .ref b1, .int np, .int th, .long hh])), (b0, .inl (G.2.1.2, 344, .inr (.inl S))), (b1, .inl (G.2.1.2, 1032, .inr (.inl P)))]) (k' := 0) (n' := 0) F (sw_runS (R := ({ frames := 1, cells := 0, slots := 0, locals := 25 } : Room)) (na := 1) F T.2.1 T.2.2.1 (k_X10_flowAt_1 l G ) [] rfl (by decide) gX10_factorAt_X10_flowAt rfl rfl rfl (by decide +kernel) ⟨Nat.le_of_ble_eq_true rfl, Nat.le_of_ble_eq_true rfl⟩ rfl rfl (Nat.le_of_ble_eq_true rfl) dX10_factorAt_73 (Nat.le_of_ble_eq_true rfl) (Nat.le_of_ble_eq_true rfl)) [] [0, 1, 2] rfl rfl (by decide) (by decide) rfl rfl (fun r_100 u_101 h_102 => ?_)
          have e_103 : r_100 = 1000 := h_102
          refine sw_eqt (v := .long 1000) (by rw [e_103]) ?_
          refine sw_eq (ws' := [(h0, .inr (10, [.ref b0, .ref b1, .int np, .int th, .long hh])), (b0, .inl (G.2.1.2, 344, .inr (.inl S))), (b1, .inl (G.2.1.2, 1032, .inr (.inl P)))]) (lv' := [(3, .int 0), (0, .ref h0), (1, .long a)]) (st' := [.long 1000, .long x_99, .long x_90]) rfl rfl rfl ?_
          refine sw_iload_n (pc := 76) F dX10_factorAt_76 rfl 0 rfl ?_
          refine sw_calll (pc := 77) (wr := [(h0, .inr (10, [.ref b0, .ref b1, .int np, .int th, .long hh])), (b0, .inl (G.2.1.2, 344, .inr (.inl S))), (b1, .inl (G.2.1.2, 1032, .inr (.inl P)))]) (k' := 0) (n' := 0) F (sw_runS (R := ({ frames := 1, cells := 0, slots := 0, locals := 25 } : Room)) (na := 1) F T.2.1 T.2.2.1 (k_X10_flowAt_0 l G ) [] rfl (by decide) gX10_factorAt_X10_flowAt rfl rfl rfl (by decide +kernel) ⟨Nat.le_of_ble_eq_true rfl, Nat.le_of_ble_eq_true rfl⟩ rfl rfl (Nat.le_of_ble_eq_true rfl) dX10_factorAt_77 (Nat.le_of_ble_eq_true rfl) (Nat.le_of_ble_eq_true rfl)) [] [0, 1, 2] rfl rfl (by decide) (by decide) rfl rfl (fun r_104 u_105 h_106 => ?_)
          have e_107 : r_104 = 0 := h_106
          refine sw_eqt (v := .long 0) (by rw [e_107]) ?_
          refine sw_eq (ws' := [(h0, .inr (10, [.ref b0, .ref b1, .int np, .int th, .long hh])), (b0, .inl (G.2.1.2, 344, .inr (.inl S))), (b1, .inl (G.2.1.2, 1032, .inr (.inl P)))]) (lv' := [(3, .int 0), (0, .ref h0), (1, .long a)]) (st' := [.long 0, .long 1000, .long x_99, .long x_90]) rfl rfl rfl ?_
          refine sw_lsub (pc := 80) F dX10_factorAt_80 ?_
          refine sw_eqt (v := .long 1000) (by rfl) ?_
          refine sw_calll (pc := 81) (wr := [(h0, .inr (10, [.ref b0, .ref b1, .int np, .int th, .long hh])), (b0, .inl (G.2.1.2, 344, .inr (.inl S))), (b1, .inl (G.2.1.2, 1032, .inr (.inl P)))]) (k' := 0) (n' := 0) F (sw_runS (R := ({ frames := 1, cells := 0, slots := 0, locals := 25 } : Room)) (na := 2) F T.2.1 T.2.2.1 (k_X10_floor l G x_99 1000 (by decide)) [] rfl (by decide) gX10_factorAt_X10_floor rfl rfl rfl (by decide +kernel) ⟨Nat.le_of_ble_eq_true rfl, Nat.le_of_ble_eq_true rfl⟩ rfl rfl (Nat.le_of_ble_eq_true rfl) dX10_factorAt_81 (Nat.le_of_ble_eq_true rfl) (Nat.le_of_ble_eq_true rfl)) [] [0, 1, 2] rfl rfl (by decide) (by decide) rfl rfl (fun r_108 u_109 h_110 => ?_)
          have e_111 : r_108 = f_X10_floor_r x_99 1000 := h_110
          refine sw_eq (ws' := [(h0, .inr (10, [.ref b0, .ref b1, .int np, .int th, .long hh])), (b0, .inl (G.2.1.2, 344, .inr (.inl S))), (b1, .inl (G.2.1.2, 1032, .inr (.inl P)))]) (lv' := [(3, .int 0), (0, .ref h0), (1, .long a)]) (st' := [.long r_108, .long x_90]) rfl rfl rfl ?_
          refine sw_ladd (pc := 84) F dX10_factorAt_84 ?_
          refine sw_topl (fun x_112 ex_112 => ?_)
          subst ex_112
          subst e_111
          subst ex_99
          subst ex_98
          subst ex_93
          subst ex_92
          subst ex_91
          subst ex_90
          exact sw_lret (pc := 85) F T () (by unfold f_X10_factorAt_r; rw [if_pos c_1, if_neg c_6, if_neg c_34, if_neg c_62]) rfl dX10_factorAt_85
  · skip
    refine sw_aload_n (pc := 8) F dX10_factorAt_8 rfl 0 rfl ?_
    refine sw_get (pc := 9) (Cn := RX10) (T := TX10) (N := 5) (ci := 10) (v := .ref b0) F in10 0 rfl rfl 0 (by decide) rfl (List.mem_of_getElem? (i := 2) rfl) rfl dX10_factorAt_9 ?_
    refine sw_bipush (pc := 12) (v := 36) F dX10_factorAt_12 rfl ?_
    refine sw_lald (pc := 14) F 1 rfl (sw_in rfl) dX10_factorAt_14 ?_
    refine sw_naml (e := S 36) rfl (fun x_113 ex_113 => ?_)
    subst ex_113
    exact sw_lret (pc := 15) F T () (by unfold f_X10_factorAt_r; rw [if_neg c_1]) rfl dX10_factorAt_15
