set_option maxHeartbeats 4000000 in
set_option maxRecDepth 100000 in
theorem k_X3_squareRoot (l : Launch) (G : sw_E) (v : Int64) (hv0 : 0 ≤ v.toInt) (hv : v.toInt < 70368744177664) : sw_M l G yX3_squareRoot wsX3_squareRoot ({ frames := 0, cells := 0, slots := 0, locals := 0 } : Room) [.long v] [] (sw_QL G (S := Unit) (fun (r : Int64) (u : Unit) => sqr v r) (fun u => [])) 0 0 := by
  refine sw_start (cc := cX3_squareRoot) (maxL := 8) (ret := some .long) (lv := [(0, .long v)]) (own := RX3) (nm := "squareRoot") (by decide +kernel) rfl rfl rfl rfl (Nat.le_of_ble_eq_true rfl) (fun C F T => ?_)
  have loop : ∀ (e : Nat), e ≤ 23 → ∀ (x2 x4 : Int64), sqI v e x2 x4 → SW G C 0 0 [] [(4, .long x4), (2, .long x2), (0, .long v)] 7 [] := by
    intro e
    induction e with
    | zero =>
      intro _ x2 x4 hI
      refine sw_lload (pc := 7) F dX3_squareRoot_7 0 rfl ?_
      refine sw_lconst (pc := 9) (v := 0) F dX3_squareRoot_9 rfl ?_
      refine sw_lcmp_le (pc := 10) (tgt := 42) F dX3_squareRoot_10 dX3_squareRoot_11 (by decide) (fun _ => ?_) (fun c => absurd (sq_z hI) c)
      refine sw_lload_n (pc := 42) F dX3_squareRoot_42 rfl 1 rfl ?_
      exact sw_lret (pc := 43) F T () (sq_end hI) rfl dX3_squareRoot_43
    | succ e ih =>
      intro he x2 x4 hI
      refine sw_lload (pc := 7) F dX3_squareRoot_7 0 rfl ?_
      refine sw_lconst (pc := 9) (v := 0) F dX3_squareRoot_9 rfl ?_
      refine sw_lcmp_le (pc := 10) (tgt := 42) F dX3_squareRoot_10 dX3_squareRoot_11 (by decide) (fun c => absurd c (sq_s (by omega) hI)) (fun _ => ?_)
      refine sw_lload_n (pc := 14) F dX3_squareRoot_14 rfl 1 rfl ?_
      refine sw_lload (pc := 15) F dX3_squareRoot_15 0 rfl ?_
      refine sw_ladd (pc := 17) F dX3_squareRoot_17 ?_
      refine sw_topl (fun x_1 ex_1 => ?_)
      refine sw_lstore (pc := 18) (lv' := [(6, .long x_1), (4, .long x4), (2, .long x2), (0, .long v)]) F T.1 dX3_squareRoot_18 (by decide) rfl ?_
      refine sw_lload (pc := 20) F dX3_squareRoot_20 0 rfl ?_
      refine sw_lload (pc := 22) F dX3_squareRoot_22 0 rfl ?_
      refine sw_lmul (pc := 24) F dX3_squareRoot_24 ?_
      refine sw_topl (fun x_2 ex_2 => ?_)
      refine sw_lload_n (pc := 25) F dX3_squareRoot_25 rfl 3 rfl ?_
      refine sw_lcmp_gt (pc := 26) (tgt := 33) F dX3_squareRoot_26 dX3_squareRoot_27 (by decide) (fun c_3 => ?_) (fun c_3 => ?_)
      · skip
        refine sw_lload (pc := 33) F dX3_squareRoot_33 1 rfl ?_
        refine sw_iconst (pc := 35) (v := 1) F dX3_squareRoot_35 rfl ?_
        refine sw_lshr (pc := 36) F dX3_squareRoot_36 ?_
        refine sw_topl (fun x_4 ex_4 => ?_)
        refine sw_lstore (pc := 37) (lv' := [(4, .long x_4), (6, .long x_1), (2, .long x2), (0, .long v)]) F T.1 dX3_squareRoot_37 (by decide) rfl ?_
        refine sw_goto (pc := 39) (tgt := 7) F dX3_squareRoot_39 (by decide) ?_
        refine sw_lvs (is := [0, 2, 3]) (lv' := [(4, .long x_4), (2, .long x2), (0, .long v)]) rfl ?_
        subst ex_4
        subst ex_2
        subst ex_1
        exact ih (by omega) _ _ (sq_no (by omega) hI c_3)
      · skip
        refine sw_lload (pc := 30) F dX3_squareRoot_30 0 rfl ?_
        refine sw_lstore_n (pc := 32) (lv' := [(2, .long x_1), (6, .long x_1), (4, .long x4), (0, .long v)]) F T.1 dX3_squareRoot_32 rfl (by decide) rfl ?_
        refine sw_lload (pc := 33) F dX3_squareRoot_33 2 rfl ?_
        refine sw_iconst (pc := 35) (v := 1) F dX3_squareRoot_35 rfl ?_
        refine sw_lshr (pc := 36) F dX3_squareRoot_36 ?_
        refine sw_topl (fun x_5 ex_5 => ?_)
        refine sw_lstore (pc := 37) (lv' := [(4, .long x_5), (2, .long x_1), (6, .long x_1), (0, .long v)]) F T.1 dX3_squareRoot_37 (by decide) rfl ?_
        refine sw_goto (pc := 39) (tgt := 7) F dX3_squareRoot_39 (by decide) ?_
        refine sw_lvs (is := [0, 1, 3]) (lv' := [(4, .long x_5), (2, .long x_1), (0, .long v)]) rfl ?_
        subst ex_5
        subst ex_2
        subst ex_1
        exact ih (by omega) _ _ (sq_yes (by omega) hI c_3)
  refine sw_lconst (pc := 0) (v := 0) F dX3_squareRoot_0 rfl ?_
  refine sw_lstore_n (pc := 1) (lv' := [(2, .long 0), (0, .long v)]) F T.1 dX3_squareRoot_1 rfl (by decide) rfl ?_
  refine sw_ldc2 (pc := 2) (v := 4194304) F (List.mem_of_getElem? (i := 1) rfl) dX3_squareRoot_2 ?_
  refine sw_lstore (pc := 5) (lv' := [(4, .long 4194304), (2, .long 0), (0, .long v)]) F T.1 dX3_squareRoot_5 (by decide) rfl ?_
  refine sw_lvs (is := [0, 1, 2]) (lv' := [(4, .long 4194304), (2, .long 0), (0, .long v)]) rfl ?_
  exact loop 23 (Nat.le_refl 23) 0 4194304 (sq_start hv0 hv)
