theorem sw_nz {x : Int32} (h : ¬ x ≤ 0) : ¬ x.toInt64 = 0 := by
  intro e
  apply h
  have h2 : x.toInt64.toInt = x.toInt := Int32.toInt_toInt64 x
  rw [e] at h2
  rw [Int32.le_iff_toInt_le]
  exact Int.le_of_eq h2.symm
set_option maxHeartbeats 4000000 in
set_option maxRecDepth 100000 in
theorem k_X5_init (l : Launch) (G : sw_E) (h0 : Nat) (um : Int64) (ua : Int32)  : sw_M l G yX5_init wsX5_init ({ frames := 2, cells := 2, slots := 8, locals := 32 } : Room) [.ref h0] [(h0, .inr (5, [.long um, .int ua, .null, .null]))] (sw_QV G (S := Nat × Nat) (fun (u : Nat × Nat) => True) (fun u => [(h0, .inr (5, [.long um, .int ua, .ref u.1, .ref u.2])), (u.1, .inr (7, [.int 0, .long 0, .long 0, .long 0])), (u.2, .inr (7, [.int 0, .long 0, .long 0, .long 0]))])) 2 8 := by
  refine sw_start (cc := cX5_init) (maxL := 1) (ret := none) (lv := [(0, .ref h0)]) (own := RX5) (nm := "<init>") (by decide +kernel) rfl rfl rfl rfl (Nat.le_of_ble_eq_true rfl) (fun C F T => ?_)
  have in5 : ∀ w ∈ u_ws RX5 TX5 4, w ∈ wsX5_init := fun w h => List.mem_cons_of_mem _ (List.mem_append_right _ (h))
  have in7 : ∀ w ∈ u_ws RX7 TX7 4, w ∈ wsX5_init := fun w h => List.mem_cons_of_mem _ (List.mem_append_left _ (List.mem_append_right _ (h)))
  refine sw_aload_n (pc := 0) F dX5_init_0 rfl 0 rfl ?_
  refine sw_objInit (pc := 1) (rm := ({ frames := 2, cells := 2, slots := 8, locals := 32 } : Room)) F T.2.1 (List.mem_of_getElem? (i := 1) rfl) (List.mem_of_getElem? (i := 2) rfl) (List.mem_of_getElem? (i := 3) rfl) dX5_init_1 (Nat.le_of_ble_eq_true rfl) (Nat.le_of_ble_eq_true rfl) ?_
  refine sw_aload_n (pc := 4) F dX5_init_4 rfl 0 rfl ?_
  refine sw_new (pc := 5) (Cn := RX7) (T := TX7) (N := 4) (ci := 7) (ty := tyX7) (fs := [.int 0, .long 0, .long 0, .long 0]) (rm := ({ frames := 2, cells := 2, slots := 8, locals := 32 } : Room)) (k' := 1) (n' := 4) F T.2.1 in7 tyX7_ok (List.mem_of_getElem? (i := 4) rfl) (List.mem_of_getElem? (i := 5) rfl) (List.mem_of_getElem? (i := 6) rfl) rfl (sw_dvX7) rfl rfl (Nat.le_of_ble_eq_true rfl) (Nat.le_of_ble_eq_true rfl) dX5_init_5 (fun q_1 => ?_)
  refine sw_eq (ws' := [(h0, .inr (5, [.long um, .int ua, .null, .null])), (q_1, .inr (7, [.int 0, .long 0, .long 0, .long 0]))]) rfl rfl rfl ?_
  refine sw_dup (pc := 8) F dX5_init_8 rfl ?_
  refine sw_callv (pc := 9) (wr := [(h0, .inr (5, [.long um, .int ua, .null, .null]))]) (k' := 1) (n' := 4) F (sw_runIN (R := ({ frames := 2, cells := 2, slots := 8, locals := 32 } : Room)) (na := 0) F T.2.1 T.2.2.1 (k_X7_init l G q_1 0 0 0 0) [1] rfl (by decide) gX5_init_X7_init_n9 rfl rfl rfl (List.mem_of_getElem? (i := 6) rfl) (List.mem_of_getElem? (i := 5) rfl) (List.mem_of_getElem? (i := 9) rfl) rfl (by decide +kernel) ⟨Nat.le_of_ble_eq_true rfl, Nat.le_of_ble_eq_true rfl⟩ rfl rfl (Nat.le_of_ble_eq_true rfl) dX5_init_9 (Nat.le_of_ble_eq_true rfl) (Nat.le_of_ble_eq_true rfl)) [1] [0] rfl rfl (by decide) (by decide) rfl rfl (fun u_3 h_4 => ?_)
  refine sw_eq (ws' := [(h0, .inr (5, [.long um, .int ua, .null, .null])), (q_1, .inr (7, [.int 0, .long 0, .long 0, .long 0]))]) (lv' := [(0, .ref h0)]) (st' := [.ref q_1, .ref h0]) rfl rfl rfl ?_
  refine sw_putF (pc := 12) (Cn := RX5) (T := TX5) (N := 4) (ci := 5) (ty0 := tyX5) (ws' := [(h0, .inr (5, [.long um, .int ua, .ref q_1, .null])), (q_1, .inr (7, [.int 0, .long 0, .long 0, .long 0]))]) F (T.2.2.2.2.1) in5 tyX5_ok nmX5 0 rfl rfl 2 (by decide) rfl (List.mem_of_getElem? (i := 7) rfl) rfl rfl rfl (Nat.le_of_ble_eq_true rfl) dX5_init_12 rfl ?_
  refine sw_aload_n (pc := 15) F dX5_init_15 rfl 0 rfl ?_
  refine sw_new (pc := 16) (Cn := RX7) (T := TX7) (N := 4) (ci := 7) (ty := tyX7) (fs := [.int 0, .long 0, .long 0, .long 0]) (rm := ({ frames := 2, cells := 2, slots := 8, locals := 32 } : Room)) (k' := 2) (n' := 8) F T.2.1 in7 tyX7_ok (List.mem_of_getElem? (i := 4) rfl) (List.mem_of_getElem? (i := 5) rfl) (List.mem_of_getElem? (i := 6) rfl) rfl (sw_dvX7) rfl rfl (Nat.le_of_ble_eq_true rfl) (Nat.le_of_ble_eq_true rfl) dX5_init_16 (fun q_5 => ?_)
  refine sw_eq (ws' := [(h0, .inr (5, [.long um, .int ua, .ref q_1, .null])), (q_1, .inr (7, [.int 0, .long 0, .long 0, .long 0])), (q_5, .inr (7, [.int 0, .long 0, .long 0, .long 0]))]) rfl rfl rfl ?_
  refine sw_dup (pc := 19) F dX5_init_19 rfl ?_
  refine sw_callv (pc := 20) (wr := [(h0, .inr (5, [.long um, .int ua, .ref q_1, .null])), (q_1, .inr (7, [.int 0, .long 0, .long 0, .long 0]))]) (k' := 2) (n' := 8) F (sw_runIN (R := ({ frames := 2, cells := 2, slots := 8, locals := 32 } : Room)) (na := 0) F T.2.1 T.2.2.1 (k_X7_init l G q_5 0 0 0 0) [2] rfl (by decide) gX5_init_X7_init_n9 rfl rfl rfl (List.mem_of_getElem? (i := 6) rfl) (List.mem_of_getElem? (i := 5) rfl) (List.mem_of_getElem? (i := 9) rfl) rfl (by decide +kernel) ⟨Nat.le_of_ble_eq_true rfl, Nat.le_of_ble_eq_true rfl⟩ rfl rfl (Nat.le_of_ble_eq_true rfl) dX5_init_20 (Nat.le_of_ble_eq_true rfl) (Nat.le_of_ble_eq_true rfl)) [2] [0, 1] rfl rfl (by decide) (by decide) rfl rfl (fun u_7 h_8 => ?_)
  refine sw_eq (ws' := [(h0, .inr (5, [.long um, .int ua, .ref q_1, .null])), (q_1, .inr (7, [.int 0, .long 0, .long 0, .long 0])), (q_5, .inr (7, [.int 0, .long 0, .long 0, .long 0]))]) (lv' := [(0, .ref h0)]) (st' := [.ref q_5, .ref h0]) rfl rfl rfl ?_
  refine sw_putF (pc := 23) (Cn := RX5) (T := TX5) (N := 4) (ci := 5) (ty0 := tyX5) (ws' := [(h0, .inr (5, [.long um, .int ua, .ref q_1, .ref q_5])), (q_1, .inr (7, [.int 0, .long 0, .long 0, .long 0])), (q_5, .inr (7, [.int 0, .long 0, .long 0, .long 0]))]) F (T.2.2.2.2.1) in5 tyX5_ok nmX5 0 rfl rfl 3 (by decide) rfl (List.mem_of_getElem? (i := 8) rfl) rfl rfl rfl (Nat.le_of_ble_eq_true rfl) dX5_init_23 rfl ?_
  exact sw_vret (pc := 26) F T (q_1, q_5) trivial rfl dX5_init_26
set_option maxHeartbeats 4000000 in
set_option maxRecDepth 100000 in
theorem k_X5_copyFrom (l : Launch) (G : sw_E) (h0 : Nat) (h1 : Nat) (h2 : Nat) (g0 : Nat) (g1 : Nat) (g2 : Nat) (um : Int64) (ua : Int32) (uwn : Int32) (uwd : Int64) (uwp : Int64) (uwt : Int64) (uln : Int32) (uld : Int64) (ulp : Int64) (ult : Int64) (zm : Int64) (za : Int32) (zwn : Int32) (zwd : Int64) (zwp : Int64) (zwt : Int64) (zln : Int32) (zld : Int64) (zlp : Int64) (zlt : Int64)  : sw_M l G yX5_copyFrom wsX5_copyFrom ({ frames := 1, cells := 0, slots := 0, locals := 21 } : Room) [.ref h0, .ref g0] [(h0, .inr (5, [.long um, .int ua, .ref h1, .ref h2])), (h1, .inr (7, [.int uwn, .long uwd, .long uwp, .long uwt])), (h2, .inr (7, [.int uln, .long uld, .long ulp, .long ult])), (g0, .inr (5, [.long zm, .int za, .ref g1, .ref g2])), (g1, .inr (7, [.int zwn, .long zwd, .long zwp, .long zwt])), (g2, .inr (7, [.int zln, .long zld, .long zlp, .long zlt]))] (sw_QV G (S := Unit) (fun (_ : Unit) => True) (fun _ => [(h0, .inr (5, [.long zm, .int za, .ref h1, .ref h2])), (h1, .inr (7, [.int zwn, .long zwd, .long zwp, .long zwt])), (h2, .inr (7, [.int zln, .long zld, .long zlp, .long zlt])), (g0, .inr (5, [.long zm, .int za, .ref g1, .ref g2])), (g1, .inr (7, [.int zwn, .long zwd, .long zwp, .long zwt])), (g2, .inr (7, [.int zln, .long zld, .long zlp, .long zlt]))])) 0 0 := by
  refine sw_start (cc := cX5_copyFrom) (maxL := 2) (ret := none) (lv := [(0, .ref h0), (1, .ref g0)]) (own := RX5) (nm := "copyFrom") (by decide +kernel) rfl rfl rfl rfl (Nat.le_of_ble_eq_true rfl) (fun C F T => ?_)
  have in5 : ∀ w ∈ u_ws RX5 TX5 4, w ∈ wsX5_copyFrom := fun w h => List.mem_cons_of_mem _ (List.mem_append_left _ (List.mem_append_right _ (h)))
  refine sw_aload_n (pc := 0) F dX5_copyFrom_0 rfl 0 rfl ?_
  refine sw_aload_n (pc := 1) F dX5_copyFrom_1 rfl 1 rfl ?_
  refine sw_get (pc := 2) (Cn := RX5) (T := TX5) (N := 4) (ci := 5) (v := .long zm) F in5 3 rfl rfl 0 (by decide) rfl (List.mem_of_getElem? (i := 1) rfl) rfl dX5_copyFrom_2 ?_
  refine sw_put (pc := 5) (Cn := RX5) (T := TX5) (N := 4) (ci := 5) (ty0 := tyX5) (ws' := [(h0, .inr (5, [.long zm, .int ua, .ref h1, .ref h2])), (h1, .inr (7, [.int uwn, .long uwd, .long uwp, .long uwt])), (h2, .inr (7, [.int uln, .long uld, .long ulp, .long ult])), (g0, .inr (5, [.long zm, .int za, .ref g1, .ref g2])), (g1, .inr (7, [.int zwn, .long zwd, .long zwp, .long zwt])), (g2, .inr (7, [.int zln, .long zld, .long zlp, .long zlt]))]) F in5 tyX5_ok nmX5 0 rfl rfl 0 (by decide) rfl (List.mem_of_getElem? (i := 1) rfl) rfl rfl rfl (Nat.le_of_ble_eq_true rfl) dX5_copyFrom_5 rfl ?_
  refine sw_aload_n (pc := 8) F dX5_copyFrom_8 rfl 0 rfl ?_
  refine sw_aload_n (pc := 9) F dX5_copyFrom_9 rfl 1 rfl ?_
  refine sw_get (pc := 10) (Cn := RX5) (T := TX5) (N := 4) (ci := 5) (v := .int za) F in5 3 rfl rfl 1 (by decide) rfl (List.mem_of_getElem? (i := 2) rfl) rfl dX5_copyFrom_10 ?_
  refine sw_put (pc := 13) (Cn := RX5) (T := TX5) (N := 4) (ci := 5) (ty0 := tyX5) (ws' := [(h0, .inr (5, [.long zm, .int za, .ref h1, .ref h2])), (h1, .inr (7, [.int uwn, .long uwd, .long uwp, .long uwt])), (h2, .inr (7, [.int uln, .long uld, .long ulp, .long ult])), (g0, .inr (5, [.long zm, .int za, .ref g1, .ref g2])), (g1, .inr (7, [.int zwn, .long zwd, .long zwp, .long zwt])), (g2, .inr (7, [.int zln, .long zld, .long zlp, .long zlt]))]) F in5 tyX5_ok nmX5 0 rfl rfl 1 (by decide) rfl (List.mem_of_getElem? (i := 2) rfl) rfl rfl rfl (Nat.le_of_ble_eq_true rfl) dX5_copyFrom_13 rfl ?_
  refine sw_aload_n (pc := 16) F dX5_copyFrom_16 rfl 0 rfl ?_
  refine sw_get (pc := 17) (Cn := RX5) (T := TX5) (N := 4) (ci := 5) (v := .ref h1) F in5 0 rfl rfl 2 (by decide) rfl (List.mem_of_getElem? (i := 3) rfl) rfl dX5_copyFrom_17 ?_
  refine sw_aload_n (pc := 20) F dX5_copyFrom_20 rfl 1 rfl ?_
  refine sw_get (pc := 21) (Cn := RX5) (T := TX5) (N := 4) (ci := 5) (v := .ref g1) F in5 3 rfl rfl 2 (by decide) rfl (List.mem_of_getElem? (i := 3) rfl) rfl dX5_copyFrom_21 ?_
  refine sw_callv (pc := 24) (wr := [(h0, .inr (5, [.long zm, .int za, .ref h1, .ref h2])), (h2, .inr (7, [.int uln, .long uld, .long ulp, .long ult])), (g0, .inr (5, [.long zm, .int za, .ref g1, .ref g2])), (g2, .inr (7, [.int zln, .long zld, .long zlp, .long zlt]))]) (k' := 0) (n' := 0) F (sw_runV (R := ({ frames := 1, cells := 0, slots := 0, locals := 21 } : Room)) (q0 := 0) (na := 1) F T.2.1 T.2.2.1 (k_X7_copyFrom l G h1 g1 uwn uwd uwp uwt zwn zwd zwp zwt) [1, 4] rfl (by decide) gX5_copyFrom_X7_copyFrom rfl rfl rfl (by decide +kernel) ⟨Nat.le_of_ble_eq_true rfl, Nat.le_of_ble_eq_true rfl⟩ rfl rfl rfl rfl rfl (Nat.le_of_ble_eq_true rfl) dX5_copyFrom_24 (Nat.le_of_ble_eq_true rfl) (Nat.le_of_ble_eq_true rfl)) [1, 4] [0, 2, 3, 5] rfl rfl (by decide) (by decide) rfl rfl (fun u_2 h_3 => ?_)
  refine sw_eq (ws' := [(h0, .inr (5, [.long zm, .int za, .ref h1, .ref h2])), (h2, .inr (7, [.int uln, .long uld, .long ulp, .long ult])), (g0, .inr (5, [.long zm, .int za, .ref g1, .ref g2])), (g2, .inr (7, [.int zln, .long zld, .long zlp, .long zlt])), (h1, .inr (7, [.int zwn, .long zwd, .long zwp, .long zwt])), (g1, .inr (7, [.int zwn, .long zwd, .long zwp, .long zwt]))]) (lv' := [(0, .ref h0), (1, .ref g0)]) (st' := []) rfl rfl rfl ?_
  refine sw_aload_n (pc := 27) F dX5_copyFrom_27 rfl 0 rfl ?_
  refine sw_get (pc := 28) (Cn := RX5) (T := TX5) (N := 4) (ci := 5) (v := .ref h2) F in5 0 rfl rfl 3 (by decide) rfl (List.mem_of_getElem? (i := 4) rfl) rfl dX5_copyFrom_28 ?_
  refine sw_aload_n (pc := 31) F dX5_copyFrom_31 rfl 1 rfl ?_
  refine sw_get (pc := 32) (Cn := RX5) (T := TX5) (N := 4) (ci := 5) (v := .ref g2) F in5 2 rfl rfl 3 (by decide) rfl (List.mem_of_getElem? (i := 4) rfl) rfl dX5_copyFrom_32 ?_
  refine sw_callv (pc := 35) (wr := [(h0, .inr (5, [.long zm, .int za, .ref h1, .ref h2])), (g0, .inr (5, [.long zm, .int za, .ref g1, .ref g2])), (h1, .inr (7, [.int zwn, .long zwd, .long zwp, .long zwt])), (g1, .inr (7, [.int zwn, .long zwd, .long zwp, .long zwt]))]) (k' := 0) (n' := 0) F (sw_runV (R := ({ frames := 1, cells := 0, slots := 0, locals := 21 } : Room)) (q0 := 0) (na := 1) F T.2.1 T.2.2.1 (k_X7_copyFrom l G h2 g2 uln uld ulp ult zln zld zlp zlt) [1, 3] rfl (by decide) gX5_copyFrom_X7_copyFrom rfl rfl rfl (by decide +kernel) ⟨Nat.le_of_ble_eq_true rfl, Nat.le_of_ble_eq_true rfl⟩ rfl rfl rfl rfl rfl (Nat.le_of_ble_eq_true rfl) dX5_copyFrom_35 (Nat.le_of_ble_eq_true rfl) (Nat.le_of_ble_eq_true rfl)) [1, 3] [0, 2, 4, 5] rfl rfl (by decide) (by decide) rfl rfl (fun u_5 h_6 => ?_)
  refine sw_eq (ws' := [(h0, .inr (5, [.long zm, .int za, .ref h1, .ref h2])), (g0, .inr (5, [.long zm, .int za, .ref g1, .ref g2])), (h1, .inr (7, [.int zwn, .long zwd, .long zwp, .long zwt])), (g1, .inr (7, [.int zwn, .long zwd, .long zwp, .long zwt])), (h2, .inr (7, [.int zln, .long zld, .long zlp, .long zlt])), (g2, .inr (7, [.int zln, .long zld, .long zlp, .long zlt]))]) (lv' := [(0, .ref h0), (1, .ref g0)]) (st' := []) rfl rfl rfl ?_
  refine sw_perm (ws' := [(h0, .inr (5, [.long zm, .int za, .ref h1, .ref h2])), (h1, .inr (7, [.int zwn, .long zwd, .long zwp, .long zwt])), (h2, .inr (7, [.int zln, .long zld, .long zlp, .long zlt])), (g0, .inr (5, [.long zm, .int za, .ref g1, .ref g2])), (g1, .inr (7, [.int zwn, .long zwd, .long zwp, .long zwt])), (g2, .inr (7, [.int zln, .long zld, .long zlp, .long zlt]))]) [0, 2, 4, 1, 3, 5] (by decide) rfl ?_
  exact sw_vret (pc := 38) F T () trivial rfl dX5_copyFrom_38
set_option maxHeartbeats 4000000 in
set_option maxRecDepth 100000 in
theorem k_X5_clear (l : Launch) (G : sw_E) (h0 : Nat) (h1 : Nat) (h2 : Nat) (um : Int64) (ua : Int32) (uwn : Int32) (uwd : Int64) (uwp : Int64) (uwt : Int64) (uln : Int32) (uld : Int64) (ulp : Int64) (ult : Int64)  : sw_M l G yX5_clear wsX5_clear ({ frames := 1, cells := 0, slots := 0, locals := 20 } : Room) [.ref h0] [(h0, .inr (5, [.long um, .int ua, .ref h1, .ref h2])), (h1, .inr (7, [.int uwn, .long uwd, .long uwp, .long uwt])), (h2, .inr (7, [.int uln, .long uld, .long ulp, .long ult]))] (sw_QV G (S := Unit) (fun (_ : Unit) => True) (fun _ => [(h0, .inr (5, [.long 0, .int 0, .ref h1, .ref h2])), (h1, .inr (7, [.int 0, .long 0, .long 0, .long 0])), (h2, .inr (7, [.int 0, .long 0, .long 0, .long 0]))])) 0 0 := by
  refine sw_start (cc := cX5_clear) (maxL := 1) (ret := none) (lv := [(0, .ref h0)]) (own := RX5) (nm := "clear") (by decide +kernel) rfl rfl rfl rfl (Nat.le_of_ble_eq_true rfl) (fun C F T => ?_)
  have in5 : ∀ w ∈ u_ws RX5 TX5 4, w ∈ wsX5_clear := fun w h => List.mem_cons_of_mem _ (List.mem_append_left _ (List.mem_append_right _ (h)))
  refine sw_aload_n (pc := 0) F dX5_clear_0 rfl 0 rfl ?_
  refine sw_lconst (pc := 1) (v := 0) F dX5_clear_1 rfl ?_
  refine sw_put (pc := 2) (Cn := RX5) (T := TX5) (N := 4) (ci := 5) (ty0 := tyX5) (ws' := [(h0, .inr (5, [.long 0, .int ua, .ref h1, .ref h2])), (h1, .inr (7, [.int uwn, .long uwd, .long uwp, .long uwt])), (h2, .inr (7, [.int uln, .long uld, .long ulp, .long ult]))]) F in5 tyX5_ok nmX5 0 rfl rfl 0 (by decide) rfl (List.mem_of_getElem? (i := 1) rfl) rfl rfl rfl (Nat.le_of_ble_eq_true rfl) dX5_clear_2 rfl ?_
  refine sw_aload_n (pc := 5) F dX5_clear_5 rfl 0 rfl ?_
  refine sw_iconst (pc := 6) (v := 0) F dX5_clear_6 rfl ?_
  refine sw_put (pc := 7) (Cn := RX5) (T := TX5) (N := 4) (ci := 5) (ty0 := tyX5) (ws' := [(h0, .inr (5, [.long 0, .int 0, .ref h1, .ref h2])), (h1, .inr (7, [.int uwn, .long uwd, .long uwp, .long uwt])), (h2, .inr (7, [.int uln, .long uld, .long ulp, .long ult]))]) F in5 tyX5_ok nmX5 0 rfl rfl 1 (by decide) rfl (List.mem_of_getElem? (i := 2) rfl) rfl rfl rfl (Nat.le_of_ble_eq_true rfl) dX5_clear_7 rfl ?_
  refine sw_aload_n (pc := 10) F dX5_clear_10 rfl 0 rfl ?_
  refine sw_get (pc := 11) (Cn := RX5) (T := TX5) (N := 4) (ci := 5) (v := .ref h1) F in5 0 rfl rfl 2 (by decide) rfl (List.mem_of_getElem? (i := 3) rfl) rfl dX5_clear_11 ?_
  refine sw_callv (pc := 14) (wr := [(h0, .inr (5, [.long 0, .int 0, .ref h1, .ref h2])), (h2, .inr (7, [.int uln, .long uld, .long ulp, .long ult]))]) (k' := 0) (n' := 0) F (sw_runV (R := ({ frames := 1, cells := 0, slots := 0, locals := 20 } : Room)) (q0 := 0) (na := 0) F T.2.1 T.2.2.1 (k_X7_clear l G h1 uwn uwd uwp uwt) [1] rfl (by decide) gX5_clear_X7_clear rfl rfl rfl (by decide +kernel) ⟨Nat.le_of_ble_eq_true rfl, Nat.le_of_ble_eq_true rfl⟩ rfl rfl rfl rfl rfl (Nat.le_of_ble_eq_true rfl) dX5_clear_14 (Nat.le_of_ble_eq_true rfl) (Nat.le_of_ble_eq_true rfl)) [1] [0, 2] rfl rfl (by decide) (by decide) rfl rfl (fun u_2 h_3 => ?_)
  refine sw_eq (ws' := [(h0, .inr (5, [.long 0, .int 0, .ref h1, .ref h2])), (h2, .inr (7, [.int uln, .long uld, .long ulp, .long ult])), (h1, .inr (7, [.int 0, .long 0, .long 0, .long 0]))]) (lv' := [(0, .ref h0)]) (st' := []) rfl rfl rfl ?_
  refine sw_aload_n (pc := 17) F dX5_clear_17 rfl 0 rfl ?_
  refine sw_get (pc := 18) (Cn := RX5) (T := TX5) (N := 4) (ci := 5) (v := .ref h2) F in5 0 rfl rfl 3 (by decide) rfl (List.mem_of_getElem? (i := 4) rfl) rfl dX5_clear_18 ?_
  refine sw_callv (pc := 21) (wr := [(h0, .inr (5, [.long 0, .int 0, .ref h1, .ref h2])), (h1, .inr (7, [.int 0, .long 0, .long 0, .long 0]))]) (k' := 0) (n' := 0) F (sw_runV (R := ({ frames := 1, cells := 0, slots := 0, locals := 20 } : Room)) (q0 := 0) (na := 0) F T.2.1 T.2.2.1 (k_X7_clear l G h2 uln uld ulp ult) [1] rfl (by decide) gX5_clear_X7_clear rfl rfl rfl (by decide +kernel) ⟨Nat.le_of_ble_eq_true rfl, Nat.le_of_ble_eq_true rfl⟩ rfl rfl rfl rfl rfl (Nat.le_of_ble_eq_true rfl) dX5_clear_21 (Nat.le_of_ble_eq_true rfl) (Nat.le_of_ble_eq_true rfl)) [1] [0, 2] rfl rfl (by decide) (by decide) rfl rfl (fun u_5 h_6 => ?_)
  refine sw_eq (ws' := [(h0, .inr (5, [.long 0, .int 0, .ref h1, .ref h2])), (h1, .inr (7, [.int 0, .long 0, .long 0, .long 0])), (h2, .inr (7, [.int 0, .long 0, .long 0, .long 0]))]) (lv' := [(0, .ref h0)]) (st' := []) rfl rfl rfl ?_
  exact sw_vret (pc := 24) F T () trivial rfl dX5_clear_24
set_option maxHeartbeats 4000000 in
set_option maxRecDepth 100000 in
theorem k_X5_sumsForMeans_w (l : Launch) (G : sw_E) (h0 : Nat) (h1 : Nat) (h2 : Nat) (um : Int64) (ua : Int32) (uwn : Int32) (uwd : Int64) (uwp : Int64) (uwt : Int64) (uln : Int32) (uld : Int64) (ulp : Int64) (ult : Int64) (hc : ¬ uwn ≤ 0) : sw_M l G yX5_sumsForMeans wsX5_sumsForMeans ({ frames := 0, cells := 0, slots := 0, locals := 0 } : Room) [.ref h0] [(h0, .inr (5, [.long um, .int ua, .ref h1, .ref h2])), (h1, .inr (7, [.int uwn, .long uwd, .long uwp, .long uwt])), (h2, .inr (7, [.int uln, .long uld, .long ulp, .long ult]))] (sw_QR G (S := Unit) (fun (r : Nat) (_ : Unit) => r = h1) (fun _ => [(h0, .inr (5, [.long um, .int ua, .ref h1, .ref h2])), (h1, .inr (7, [.int uwn, .long uwd, .long uwp, .long uwt])), (h2, .inr (7, [.int uln, .long uld, .long ulp, .long ult]))])) 0 0 := by
  refine sw_start (cc := cX5_sumsForMeans) (maxL := 1) (ret := some (.object "FlowComputer$Sums")) (lv := [(0, .ref h0)]) (own := RX5) (nm := "sumsForMeans") (by decide +kernel) rfl rfl rfl rfl (Nat.le_of_ble_eq_true rfl) (fun C F T => ?_)
  have in5 : ∀ w ∈ u_ws RX5 TX5 4, w ∈ wsX5_sumsForMeans := fun w h => List.mem_cons_of_mem _ (List.mem_append_left _ (List.mem_append_right _ (h)))
  have in7 : ∀ w ∈ u_ws RX7 TX7 4, w ∈ wsX5_sumsForMeans := fun w h => List.mem_cons_of_mem _ (List.mem_append_right _ (h))
  refine sw_aload_n (pc := 0) F dX5_sumsForMeans_0 rfl 0 rfl ?_
  refine sw_get (pc := 1) (Cn := RX5) (T := TX5) (N := 4) (ci := 5) (v := .ref h1) F in5 0 rfl rfl 2 (by decide) rfl (List.mem_of_getElem? (i := 1) rfl) rfl dX5_sumsForMeans_1 ?_
  refine sw_get (pc := 4) (Cn := RX7) (T := TX7) (N := 4) (ci := 7) (v := .int uwn) F in7 1 rfl rfl 0 (by decide) rfl (List.mem_of_getElem? (i := 2) rfl) rfl dX5_sumsForMeans_4 ?_
  refine sw_if_le (pc := 7) (tgt := 17) F dX5_sumsForMeans_7 (by decide) (fun c => absurd c hc) (fun _ => ?_)
  refine sw_aload_n (pc := 10) F dX5_sumsForMeans_10 rfl 0 rfl ?_
  refine sw_get (pc := 11) (Cn := RX5) (T := TX5) (N := 4) (ci := 5) (v := .ref h1) F in5 0 rfl rfl 2 (by decide) rfl (List.mem_of_getElem? (i := 1) rfl) rfl dX5_sumsForMeans_11 ?_
  refine sw_goto (pc := 14) (tgt := 21) F dX5_sumsForMeans_14 (by decide) ?_
  exact sw_aret (pc := 21) F T () rfl rfl dX5_sumsForMeans_21
set_option maxHeartbeats 4000000 in
set_option maxRecDepth 100000 in
theorem k_X5_sumsForMeans_a (l : Launch) (G : sw_E) (h0 : Nat) (h1 : Nat) (h2 : Nat) (um : Int64) (ua : Int32) (uwn : Int32) (uwd : Int64) (uwp : Int64) (uwt : Int64) (uln : Int32) (uld : Int64) (ulp : Int64) (ult : Int64) (hc : uwn ≤ 0) : sw_M l G yX5_sumsForMeans wsX5_sumsForMeans ({ frames := 0, cells := 0, slots := 0, locals := 0 } : Room) [.ref h0] [(h0, .inr (5, [.long um, .int ua, .ref h1, .ref h2])), (h1, .inr (7, [.int uwn, .long uwd, .long uwp, .long uwt])), (h2, .inr (7, [.int uln, .long uld, .long ulp, .long ult]))] (sw_QR G (S := Unit) (fun (r : Nat) (_ : Unit) => r = h2) (fun _ => [(h0, .inr (5, [.long um, .int ua, .ref h1, .ref h2])), (h1, .inr (7, [.int uwn, .long uwd, .long uwp, .long uwt])), (h2, .inr (7, [.int uln, .long uld, .long ulp, .long ult]))])) 0 0 := by
  refine sw_start (cc := cX5_sumsForMeans) (maxL := 1) (ret := some (.object "FlowComputer$Sums")) (lv := [(0, .ref h0)]) (own := RX5) (nm := "sumsForMeans") (by decide +kernel) rfl rfl rfl rfl (Nat.le_of_ble_eq_true rfl) (fun C F T => ?_)
  have in5 : ∀ w ∈ u_ws RX5 TX5 4, w ∈ wsX5_sumsForMeans := fun w h => List.mem_cons_of_mem _ (List.mem_append_left _ (List.mem_append_right _ (h)))
  have in7 : ∀ w ∈ u_ws RX7 TX7 4, w ∈ wsX5_sumsForMeans := fun w h => List.mem_cons_of_mem _ (List.mem_append_right _ (h))
  refine sw_aload_n (pc := 0) F dX5_sumsForMeans_0 rfl 0 rfl ?_
  refine sw_get (pc := 1) (Cn := RX5) (T := TX5) (N := 4) (ci := 5) (v := .ref h1) F in5 0 rfl rfl 2 (by decide) rfl (List.mem_of_getElem? (i := 1) rfl) rfl dX5_sumsForMeans_1 ?_
  refine sw_get (pc := 4) (Cn := RX7) (T := TX7) (N := 4) (ci := 7) (v := .int uwn) F in7 1 rfl rfl 0 (by decide) rfl (List.mem_of_getElem? (i := 2) rfl) rfl dX5_sumsForMeans_4 ?_
  refine sw_if_le (pc := 7) (tgt := 17) F dX5_sumsForMeans_7 (by decide) (fun _ => ?_) (fun c => absurd hc c)
  refine sw_aload_n (pc := 17) F dX5_sumsForMeans_17 rfl 0 rfl ?_
  refine sw_get (pc := 18) (Cn := RX5) (T := TX5) (N := 4) (ci := 5) (v := .ref h2) F in5 0 rfl rfl 3 (by decide) rfl (List.mem_of_getElem? (i := 3) rfl) rfl dX5_sumsForMeans_18 ?_
  exact sw_aret (pc := 21) F T () rfl rfl dX5_sumsForMeans_21
def f_X2_add_o0_0 (ym : Int64) (um : Int64) : Int64 := (ym + um)
def f_X2_add_o0_1 (yf : Int64) (uwn : Int32) : Int64 := (yf + uwn.toInt64)
def f_X2_add_o0_2 (yh : Int32) : Int32 := (yh + 1)
set_option maxHeartbeats 4000000 in
set_option maxRecDepth 100000 in
theorem k_X2_add (l : Launch) (G : sw_E) (h0 : Nat) (h1 : Nat) (h2 : Nat) (h3 : Nat) (ym : Int64) (yf : Int64) (yh : Int32) (um : Int64) (ua : Int32) (uwn : Int32) (uwd : Int64) (uwp : Int64) (uwt : Int64) (uln : Int32) (uld : Int64) (ulp : Int64) (ult : Int64)  : sw_M l G yX2_add wsX2_add ({ frames := 0, cells := 0, slots := 0, locals := 0 } : Room) [.ref h0, .ref h1] [(h0, .inr (2, [.long ym, .long yf, .int yh])), (h1, .inr (5, [.long um, .int ua, .ref h2, .ref h3])), (h2, .inr (7, [.int uwn, .long uwd, .long uwp, .long uwt])), (h3, .inr (7, [.int uln, .long uld, .long ulp, .long ult]))] (sw_QV G (S := Int64 × Int64 × Int32) (fun (u : Int64 × Int64 × Int32) => u.1 = f_X2_add_o0_0 ym um ∧ u.2.1 = f_X2_add_o0_1 yf uwn ∧ u.2.2 = f_X2_add_o0_2 yh) (fun u => [(h0, .inr (2, [.long u.1, .long u.2.1, .int u.2.2])), (h1, .inr (5, [.long um, .int ua, .ref h2, .ref h3])), (h2, .inr (7, [.int uwn, .long uwd, .long uwp, .long uwt])), (h3, .inr (7, [.int uln, .long uld, .long ulp, .long ult]))])) 0 0 := by
  refine sw_start (cc := cX2_add) (maxL := 2) (ret := none) (lv := [(0, .ref h0), (1, .ref h1)]) (own := RX2) (nm := "add") (by decide +kernel) rfl rfl rfl rfl (Nat.le_of_ble_eq_true rfl) (fun C F T => ?_)
  have in2 : ∀ w ∈ u_ws RX2 TX2 3, w ∈ wsX2_add := fun w h => List.mem_cons_of_mem _ (List.mem_append_left _ (List.mem_append_left _ (List.mem_append_right _ (h))))
  have in5 : ∀ w ∈ u_ws RX5 TX5 4, w ∈ wsX2_add := fun w h => List.mem_cons_of_mem _ (List.mem_append_left _ (List.mem_append_right _ (h)))
  have in7 : ∀ w ∈ u_ws RX7 TX7 4, w ∈ wsX2_add := fun w h => List.mem_cons_of_mem _ (List.mem_append_right _ (h))
  refine sw_aload_n (pc := 0) F dX2_add_0 rfl 0 rfl ?_
  refine sw_dup (pc := 1) F dX2_add_1 rfl ?_
  refine sw_get (pc := 2) (Cn := RX2) (T := TX2) (N := 3) (ci := 2) (v := .long ym) F in2 0 rfl rfl 0 (by decide) rfl (List.mem_of_getElem? (i := 1) rfl) rfl dX2_add_2 ?_
  refine sw_aload_n (pc := 5) F dX2_add_5 rfl 1 rfl ?_
  refine sw_get (pc := 6) (Cn := RX5) (T := TX5) (N := 4) (ci := 5) (v := .long um) F in5 1 rfl rfl 0 (by decide) rfl (List.mem_of_getElem? (i := 2) rfl) rfl dX2_add_6 ?_
  refine sw_ladd (pc := 9) F dX2_add_9 ?_
  refine sw_topl (fun x_1 ex_1 => ?_)
  refine sw_put (pc := 10) (Cn := RX2) (T := TX2) (N := 3) (ci := 2) (ty0 := tyX2) (ws' := [(h0, .inr (2, [.long x_1, .long yf, .int yh])), (h1, .inr (5, [.long um, .int ua, .ref h2, .ref h3])), (h2, .inr (7, [.int uwn, .long uwd, .long uwp, .long uwt])), (h3, .inr (7, [.int uln, .long uld, .long ulp, .long ult]))]) F in2 tyX2_ok nmX2 0 rfl rfl 0 (by decide) rfl (List.mem_of_getElem? (i := 1) rfl) rfl rfl rfl (Nat.le_of_ble_eq_true rfl) dX2_add_10 rfl ?_
  refine sw_aload_n (pc := 13) F dX2_add_13 rfl 0 rfl ?_
  refine sw_dup (pc := 14) F dX2_add_14 rfl ?_
  refine sw_get (pc := 15) (Cn := RX2) (T := TX2) (N := 3) (ci := 2) (v := .long yf) F in2 0 rfl rfl 1 (by decide) rfl (List.mem_of_getElem? (i := 3) rfl) rfl dX2_add_15 ?_
  refine sw_aload_n (pc := 18) F dX2_add_18 rfl 1 rfl ?_
  refine sw_get (pc := 19) (Cn := RX5) (T := TX5) (N := 4) (ci := 5) (v := .ref h2) F in5 1 rfl rfl 2 (by decide) rfl (List.mem_of_getElem? (i := 4) rfl) rfl dX2_add_19 ?_
  refine sw_get (pc := 22) (Cn := RX7) (T := TX7) (N := 4) (ci := 7) (v := .int uwn) F in7 2 rfl rfl 0 (by decide) rfl (List.mem_of_getElem? (i := 5) rfl) rfl dX2_add_22 ?_
  refine sw_i2l (pc := 25) F dX2_add_25 rfl ?_
  refine sw_ladd (pc := 26) F dX2_add_26 ?_
  refine sw_topl (fun x_2 ex_2 => ?_)
  refine sw_put (pc := 27) (Cn := RX2) (T := TX2) (N := 3) (ci := 2) (ty0 := tyX2) (ws' := [(h0, .inr (2, [.long x_1, .long x_2, .int yh])), (h1, .inr (5, [.long um, .int ua, .ref h2, .ref h3])), (h2, .inr (7, [.int uwn, .long uwd, .long uwp, .long uwt])), (h3, .inr (7, [.int uln, .long uld, .long ulp, .long ult]))]) F in2 tyX2_ok nmX2 0 rfl rfl 1 (by decide) rfl (List.mem_of_getElem? (i := 3) rfl) rfl rfl rfl (Nat.le_of_ble_eq_true rfl) dX2_add_27 rfl ?_
  refine sw_aload_n (pc := 30) F dX2_add_30 rfl 0 rfl ?_
  refine sw_dup (pc := 31) F dX2_add_31 rfl ?_
  refine sw_get (pc := 32) (Cn := RX2) (T := TX2) (N := 3) (ci := 2) (v := .int yh) F in2 0 rfl rfl 2 (by decide) rfl (List.mem_of_getElem? (i := 6) rfl) rfl dX2_add_32 ?_
  refine sw_iconst (pc := 35) (v := 1) F dX2_add_35 rfl ?_
  refine sw_iadd (pc := 36) F dX2_add_36 ?_
  refine sw_topi (fun x_3 ex_3 => ?_)
  refine sw_put (pc := 37) (Cn := RX2) (T := TX2) (N := 3) (ci := 2) (ty0 := tyX2) (ws' := [(h0, .inr (2, [.long x_1, .long x_2, .int x_3])), (h1, .inr (5, [.long um, .int ua, .ref h2, .ref h3])), (h2, .inr (7, [.int uwn, .long uwd, .long uwp, .long uwt])), (h3, .inr (7, [.int uln, .long uld, .long ulp, .long ult]))]) F in2 tyX2_ok nmX2 0 rfl rfl 2 (by decide) rfl (List.mem_of_getElem? (i := 6) rfl) rfl rfl rfl (Nat.le_of_ble_eq_true rfl) dX2_add_37 rfl ?_
  subst ex_3
  subst ex_2
  subst ex_1
  exact sw_vret (pc := 40) F T ((ym + um), (yf + uwn.toInt64), (yh + 1)) ⟨rfl, rfl, rfl⟩ rfl dX2_add_40
def f_X7_mean_r (sn : Int32) (a : Int64) : Int64 := if sn ≤ 0 then (0) else ((f_J9_floorDiv_f86c9_r a sn.toInt64))
set_option maxHeartbeats 4000000 in
set_option maxRecDepth 100000 in
theorem k_X7_mean (l : Launch) (G : sw_E) (h0 : Nat) (sn : Int32) (sd : Int64) (sp : Int64) (st : Int64) (a : Int64)  : sw_M l G yX7_mean wsX7_mean ({ frames := 1, cells := 0, slots := 0, locals := 25 } : Room) [.ref h0, .long a] [(h0, .inr (7, [.int sn, .long sd, .long sp, .long st]))] (sw_QL G (S := Unit) (fun (r : Int64) (_ : Unit) => r = f_X7_mean_r sn a) (fun _ => [(h0, .inr (7, [.int sn, .long sd, .long sp, .long st]))])) 0 0 := by
  refine sw_start (cc := cX7_mean) (maxL := 3) (ret := some .long) (lv := [(0, .ref h0), (1, .long a)]) (own := RX7) (nm := "mean") (by decide +kernel) rfl rfl rfl rfl (Nat.le_of_ble_eq_true rfl) (fun C F T => ?_)
  have in7 : ∀ w ∈ u_ws RX7 TX7 4, w ∈ wsX7_mean := fun w h => List.mem_cons_of_mem _ (List.mem_append_right _ (h))
  refine sw_aload_n (pc := 0) F dX7_mean_0 rfl 0 rfl ?_
  refine sw_get (pc := 1) (Cn := RX7) (T := TX7) (N := 4) (ci := 7) (v := .int sn) F in7 0 rfl rfl 0 (by decide) rfl (List.mem_of_getElem? (i := 1) rfl) rfl dX7_mean_1 ?_
  refine sw_if_le (pc := 4) (tgt := 19) F dX7_mean_4 (by decide) (fun c_1 => ?_) (fun c_1 => ?_)
  · skip
    refine sw_lconst (pc := 19) (v := 0) F dX7_mean_19 rfl ?_
    exact sw_lret (pc := 20) F T () (by unfold f_X7_mean_r; rw [if_pos c_1]) rfl dX7_mean_20
  · skip
    refine sw_lload_n (pc := 7) F dX7_mean_7 rfl 1 rfl ?_
    refine sw_aload_n (pc := 8) F dX7_mean_8 rfl 0 rfl ?_
    refine sw_get (pc := 9) (Cn := RX7) (T := TX7) (N := 4) (ci := 7) (v := .int sn) F in7 0 rfl rfl 0 (by decide) rfl (List.mem_of_getElem? (i := 1) rfl) rfl dX7_mean_9 ?_
    refine sw_i2l (pc := 12) F dX7_mean_12 rfl ?_
    refine sw_calll (pc := 13) (wr := [(h0, .inr (7, [.int sn, .long sd, .long sp, .long st]))]) (k' := 0) (n' := 0) F (sw_runS (R := ({ frames := 1, cells := 0, slots := 0, locals := 25 } : Room)) (na := 2) F T.2.1 T.2.2.1 (k_J9_floorDiv_f86c9 l G a sn.toInt64 (sw_nz c_1)) [] rfl (by decide) gX7_mean_J9_floorDiv_f86c9 rfl rfl rfl (by decide +kernel) ⟨Nat.le_of_ble_eq_true rfl, Nat.le_of_ble_eq_true rfl⟩ rfl rfl (Nat.le_of_ble_eq_true rfl) dX7_mean_13 (Nat.le_of_ble_eq_true rfl) (Nat.le_of_ble_eq_true rfl)) [] [0] rfl rfl (by decide) (by decide) rfl rfl (fun r_2 u_3 h_4 => ?_)
    have e_5 : r_2 = f_J9_floorDiv_f86c9_r a sn.toInt64 := h_4
    refine sw_eq (ws' := [(h0, .inr (7, [.int sn, .long sd, .long sp, .long st]))]) (lv' := [(0, .ref h0), (1, .long a)]) (st' := [.long r_2]) rfl rfl rfl ?_
    refine sw_goto (pc := 16) (tgt := 20) F dX7_mean_16 (by decide) ?_
    subst e_5
    exact sw_lret (pc := 20) F T () (by unfold f_X7_mean_r; rw [if_neg c_1]) rfl dX7_mean_20
set_option maxHeartbeats 4000000 in
set_option maxRecDepth 100000 in
theorem k_X4_init_168 (l : Launch) (G : sw_E) (h0 : Nat) (hc : Int32) (hw : Int32) (ho : Int32) (hn : Int32)  : sw_M l G yX4_init wsX4_init ({ frames := 1, cells := 1, slots := 168, locals := 12 } : Room) [.ref h0, .int 24, .int 7] [(h0, .inr (4, [.int hc, .int hw, .null, .int ho, .int hn]))] (sw_QV G (S := Nat) (fun (u : Nat) => True) (fun u => [(h0, .inr (4, [.int 24, .int 7, .ref u, .int ho, .int hn])), (u, .inl (G.2.1.2, 168, .inr (.inl (fun _ => 0))))])) 1 168 := by
  refine sw_start (cc := cX4_init) (maxL := 3) (ret := none) (lv := [(0, .ref h0), (1, .int 24), (2, .int 7)]) (own := RX4) (nm := "<init>") (by decide +kernel) rfl rfl rfl rfl (Nat.le_of_ble_eq_true rfl) (fun C F T => ?_)
  have in4 : ∀ w ∈ u_ws RX4 TX4 5, w ∈ wsX4_init := fun w h => List.mem_cons_of_mem _ (List.mem_append_right _ (h))
  refine sw_aload_n (pc := 0) F dX4_init_0 rfl 0 rfl ?_
  refine sw_objInit (pc := 1) (rm := ({ frames := 1, cells := 1, slots := 168, locals := 12 } : Room)) F T.2.1 (List.mem_of_getElem? (i := 1) rfl) (List.mem_of_getElem? (i := 2) rfl) (List.mem_of_getElem? (i := 3) rfl) dX4_init_1 (Nat.le_of_ble_eq_true rfl) (Nat.le_of_ble_eq_true rfl) ?_
  refine sw_aload_n (pc := 4) F dX4_init_4 rfl 0 rfl ?_
  refine sw_iload_n (pc := 5) F dX4_init_5 rfl 1 rfl ?_
  refine sw_putF (pc := 6) (Cn := RX4) (T := TX4) (N := 5) (ci := 4) (ty0 := tyX4) (ws' := [(h0, .inr (4, [.int 24, .int hw, .null, .int ho, .int hn]))]) F (T.2.2.2.2.1) in4 tyX4_ok nmX4 0 rfl rfl 0 (by decide) rfl (List.mem_of_getElem? (i := 4) rfl) rfl rfl rfl (Nat.le_of_ble_eq_true rfl) dX4_init_6 rfl ?_
  refine sw_aload_n (pc := 9) F dX4_init_9 rfl 0 rfl ?_
  refine sw_iload_n (pc := 10) F dX4_init_10 rfl 2 rfl ?_
  refine sw_putF (pc := 11) (Cn := RX4) (T := TX4) (N := 5) (ci := 4) (ty0 := tyX4) (ws' := [(h0, .inr (4, [.int 24, .int 7, .null, .int ho, .int hn]))]) F (T.2.2.2.2.1) in4 tyX4_ok nmX4 0 rfl rfl 1 (by decide) rfl (List.mem_of_getElem? (i := 5) rfl) rfl rfl rfl (Nat.le_of_ble_eq_true rfl) dX4_init_11 rfl ?_
  refine sw_aload_n (pc := 14) F dX4_init_14 rfl 0 rfl ?_
  refine sw_iload_n (pc := 15) F dX4_init_15 rfl 1 rfl ?_
  refine sw_iload_n (pc := 16) F dX4_init_16 rfl 2 rfl ?_
  refine sw_imul (pc := 17) F dX4_init_17 ?_
  refine sw_eqt (v := .int 168) (by rfl) ?_
  refine sw_newJ (pc := 18) (N := 168) (rm := ({ frames := 1, cells := 1, slots := 168, locals := 12 } : Room)) (k' := 1) (n' := 168) F T.2.1 (List.mem_of_getElem? (i := 6) rfl) (by decide) rfl (by decide) rfl rfl (Nat.le_of_ble_eq_true rfl) (Nat.le_of_ble_eq_true rfl) dX4_init_18 (fun q_1 => ?_)
  refine sw_eq (ws' := [(h0, .inr (4, [.int 24, .int 7, .null, .int ho, .int hn])), (q_1, .inl (G.2.1.2, 168, .inr (.inl (fun _ => 0))))]) rfl rfl rfl ?_
  refine sw_putF (pc := 20) (Cn := RX4) (T := TX4) (N := 5) (ci := 4) (ty0 := tyX4) (ws' := [(h0, .inr (4, [.int 24, .int 7, .ref q_1, .int ho, .int hn])), (q_1, .inl (G.2.1.2, 168, .inr (.inl (fun _ => 0))))]) F (T.2.2.2.2.1) in4 tyX4_ok nmX4 0 rfl rfl 2 (by decide) rfl (List.mem_of_getElem? (i := 7) rfl) rfl rfl rfl (Nat.le_of_ble_eq_true rfl) dX4_init_20 rfl ?_
  exact sw_vret (pc := 23) F T q_1 trivial rfl dX4_init_23
def f_X4_copyFrom_168_o1 (hf : Nat → Int64) (zf : Nat → Int64) : Nat → Int64 := (va_cpy zf hf 0 0 168)
set_option maxHeartbeats 4000000 in
set_option maxRecDepth 100000 in
theorem k_X4_copyFrom_168 (l : Launch) (G : sw_E) (h0 : Nat) (c0 : Nat) (g0 : Nat) (c1 : Nat) (hc : Int32) (hw : Int32) (ho : Int32) (hn : Int32) (hf : Nat → Int64) (zc : Int32) (zw : Int32) (zo : Int32) (zn : Int32) (zf : Nat → Int64)  : sw_M l G yX4_copyFrom wsX4_copyFrom ({ frames := 1, cells := 0, slots := 0, locals := 40 } : Room) [.ref h0, .ref g0] [(h0, .inr (4, [.int hc, .int hw, .ref c0, .int ho, .int hn])), (c0, .inl (G.2.1.2, 168, .inr (.inl hf))), (g0, .inr (4, [.int zc, .int zw, .ref c1, .int zo, .int zn])), (c1, .inl (G.2.1.2, 168, .inr (.inl zf)))] (sw_QV G (S := (Nat → Int64)) (fun (u : (Nat → Int64)) => u = f_X4_copyFrom_168_o1 hf zf) (fun u => [(h0, .inr (4, [.int hc, .int hw, .ref c0, .int zo, .int zn])), (c0, .inl (G.2.1.2, 168, .inr (.inl u))), (g0, .inr (4, [.int zc, .int zw, .ref c1, .int zo, .int zn])), (c1, .inl (G.2.1.2, 168, .inr (.inl zf)))])) 0 0 := by
  refine sw_start (cc := cX4_copyFrom) (maxL := 2) (ret := none) (lv := [(0, .ref h0), (1, .ref g0)]) (own := RX4) (nm := "copyFrom") (by decide +kernel) rfl rfl rfl rfl (Nat.le_of_ble_eq_true rfl) (fun C F T => ?_)
  have in4 : ∀ w ∈ u_ws RX4 TX4 5, w ∈ wsX4_copyFrom := fun w h => List.mem_cons_of_mem _ (List.mem_append_right _ (h))
  refine sw_aload_n (pc := 0) F dX4_copyFrom_0 rfl 1 rfl ?_
  refine sw_get (pc := 1) (Cn := RX4) (T := TX4) (N := 5) (ci := 4) (v := .ref c1) F in4 2 rfl rfl 2 (by decide) rfl (List.mem_of_getElem? (i := 1) rfl) rfl dX4_copyFrom_1 ?_
  refine sw_iconst (pc := 4) (v := 0) F dX4_copyFrom_4 rfl ?_
  refine sw_aload_n (pc := 5) F dX4_copyFrom_5 rfl 0 rfl ?_
  refine sw_get (pc := 6) (Cn := RX4) (T := TX4) (N := 5) (ci := 4) (v := .ref c0) F in4 0 rfl rfl 2 (by decide) rfl (List.mem_of_getElem? (i := 1) rfl) rfl dX4_copyFrom_6 ?_
  refine sw_iconst (pc := 9) (v := 0) F dX4_copyFrom_9 rfl ?_
  refine sw_aload_n (pc := 10) F dX4_copyFrom_10 rfl 0 rfl ?_
  refine sw_get (pc := 11) (Cn := RX4) (T := TX4) (N := 5) (ci := 4) (v := .ref c0) F in4 0 rfl rfl 2 (by decide) rfl (List.mem_of_getElem? (i := 1) rfl) rfl dX4_copyFrom_11 ?_
  refine sw_alenJ (pc := 14) (v := 168) F 1 rfl rfl dX4_copyFrom_14 ?_
  obtain ⟨f_1, ef_1⟩ : ∃ y : Nat → Int64, y = va_cpy zf hf 0 0 168 := ⟨_, rfl⟩
  refine sw_cpyJ (pc := 15) (rm := ({ frames := 1, cells := 0, slots := 0, locals := 40 } : Room)) (ws' := [(h0, .inr (4, [.int hc, .int hw, .ref c0, .int ho, .int hn])), (c0, .inl (G.2.1.2, 168, .inr (.inl f_1))), (g0, .inr (4, [.int zc, .int zw, .ref c1, .int zo, .int zn])), (c1, .inl (G.2.1.2, 168, .inr (.inl zf)))]) F T.2.1 (List.mem_of_getElem? (i := 2) rfl) (List.mem_of_getElem? (i := 3) rfl) (List.mem_of_getElem? (i := 4) rfl) (List.mem_of_getElem? (i := 5) rfl) 3 1 rfl rfl (by decide) (by decide) (by decide) (by decide) (by decide) (Nat.le_of_ble_eq_true rfl) (Nat.le_of_ble_eq_true rfl) dX4_copyFrom_15 (by rw [ef_1]; rfl) ?_
  refine sw_aload_n (pc := 18) F dX4_copyFrom_18 rfl 0 rfl ?_
  refine sw_aload_n (pc := 19) F dX4_copyFrom_19 rfl 1 rfl ?_
  refine sw_get (pc := 20) (Cn := RX4) (T := TX4) (N := 5) (ci := 4) (v := .int zo) F in4 2 rfl rfl 3 (by decide) rfl (List.mem_of_getElem? (i := 6) rfl) rfl dX4_copyFrom_20 ?_
  refine sw_put (pc := 23) (Cn := RX4) (T := TX4) (N := 5) (ci := 4) (ty0 := tyX4) (ws' := [(h0, .inr (4, [.int hc, .int hw, .ref c0, .int zo, .int hn])), (c0, .inl (G.2.1.2, 168, .inr (.inl f_1))), (g0, .inr (4, [.int zc, .int zw, .ref c1, .int zo, .int zn])), (c1, .inl (G.2.1.2, 168, .inr (.inl zf)))]) F in4 tyX4_ok nmX4 0 rfl rfl 3 (by decide) rfl (List.mem_of_getElem? (i := 6) rfl) rfl rfl rfl (Nat.le_of_ble_eq_true rfl) dX4_copyFrom_23 rfl ?_
  refine sw_aload_n (pc := 26) F dX4_copyFrom_26 rfl 0 rfl ?_
  refine sw_aload_n (pc := 27) F dX4_copyFrom_27 rfl 1 rfl ?_
  refine sw_get (pc := 28) (Cn := RX4) (T := TX4) (N := 5) (ci := 4) (v := .int zn) F in4 2 rfl rfl 4 (by decide) rfl (List.mem_of_getElem? (i := 7) rfl) rfl dX4_copyFrom_28 ?_
  refine sw_put (pc := 31) (Cn := RX4) (T := TX4) (N := 5) (ci := 4) (ty0 := tyX4) (ws' := [(h0, .inr (4, [.int hc, .int hw, .ref c0, .int zo, .int zn])), (c0, .inl (G.2.1.2, 168, .inr (.inl f_1))), (g0, .inr (4, [.int zc, .int zw, .ref c1, .int zo, .int zn])), (c1, .inl (G.2.1.2, 168, .inr (.inl zf)))]) F in4 tyX4_ok nmX4 0 rfl rfl 4 (by decide) rfl (List.mem_of_getElem? (i := 7) rfl) rfl rfl rfl (Nat.le_of_ble_eq_true rfl) dX4_copyFrom_31 rfl ?_
  subst ef_1
  exact sw_vret (pc := 34) F T ((va_cpy zf hf 0 0 168)) rfl rfl dX4_copyFrom_34
set_option maxHeartbeats 4000000 in
set_option maxRecDepth 100000 in
theorem k_X4_init_20 (l : Launch) (G : sw_E) (h0 : Nat) (hc : Int32) (hw : Int32) (ho : Int32) (hn : Int32)  : sw_M l G yX4_init wsX4_init ({ frames := 1, cells := 1, slots := 20, locals := 12 } : Room) [.ref h0, .int 5, .int 4] [(h0, .inr (4, [.int hc, .int hw, .null, .int ho, .int hn]))] (sw_QV G (S := Nat) (fun (u : Nat) => True) (fun u => [(h0, .inr (4, [.int 5, .int 4, .ref u, .int ho, .int hn])), (u, .inl (G.2.1.2, 20, .inr (.inl (fun _ => 0))))])) 1 20 := by
  refine sw_start (cc := cX4_init) (maxL := 3) (ret := none) (lv := [(0, .ref h0), (1, .int 5), (2, .int 4)]) (own := RX4) (nm := "<init>") (by decide +kernel) rfl rfl rfl rfl (Nat.le_of_ble_eq_true rfl) (fun C F T => ?_)
  have in4 : ∀ w ∈ u_ws RX4 TX4 5, w ∈ wsX4_init := fun w h => List.mem_cons_of_mem _ (List.mem_append_right _ (h))
  refine sw_aload_n (pc := 0) F dX4_init_0 rfl 0 rfl ?_
  refine sw_objInit (pc := 1) (rm := ({ frames := 1, cells := 1, slots := 20, locals := 12 } : Room)) F T.2.1 (List.mem_of_getElem? (i := 1) rfl) (List.mem_of_getElem? (i := 2) rfl) (List.mem_of_getElem? (i := 3) rfl) dX4_init_1 (Nat.le_of_ble_eq_true rfl) (Nat.le_of_ble_eq_true rfl) ?_
  refine sw_aload_n (pc := 4) F dX4_init_4 rfl 0 rfl ?_
  refine sw_iload_n (pc := 5) F dX4_init_5 rfl 1 rfl ?_
  refine sw_putF (pc := 6) (Cn := RX4) (T := TX4) (N := 5) (ci := 4) (ty0 := tyX4) (ws' := [(h0, .inr (4, [.int 5, .int hw, .null, .int ho, .int hn]))]) F (T.2.2.2.2.1) in4 tyX4_ok nmX4 0 rfl rfl 0 (by decide) rfl (List.mem_of_getElem? (i := 4) rfl) rfl rfl rfl (Nat.le_of_ble_eq_true rfl) dX4_init_6 rfl ?_
  refine sw_aload_n (pc := 9) F dX4_init_9 rfl 0 rfl ?_
  refine sw_iload_n (pc := 10) F dX4_init_10 rfl 2 rfl ?_
  refine sw_putF (pc := 11) (Cn := RX4) (T := TX4) (N := 5) (ci := 4) (ty0 := tyX4) (ws' := [(h0, .inr (4, [.int 5, .int 4, .null, .int ho, .int hn]))]) F (T.2.2.2.2.1) in4 tyX4_ok nmX4 0 rfl rfl 1 (by decide) rfl (List.mem_of_getElem? (i := 5) rfl) rfl rfl rfl (Nat.le_of_ble_eq_true rfl) dX4_init_11 rfl ?_
  refine sw_aload_n (pc := 14) F dX4_init_14 rfl 0 rfl ?_
  refine sw_iload_n (pc := 15) F dX4_init_15 rfl 1 rfl ?_
  refine sw_iload_n (pc := 16) F dX4_init_16 rfl 2 rfl ?_
  refine sw_imul (pc := 17) F dX4_init_17 ?_
  refine sw_eqt (v := .int 20) (by rfl) ?_
  refine sw_newJ (pc := 18) (N := 20) (rm := ({ frames := 1, cells := 1, slots := 20, locals := 12 } : Room)) (k' := 1) (n' := 20) F T.2.1 (List.mem_of_getElem? (i := 6) rfl) (by decide) rfl (by decide) rfl rfl (Nat.le_of_ble_eq_true rfl) (Nat.le_of_ble_eq_true rfl) dX4_init_18 (fun q_1 => ?_)
  refine sw_eq (ws' := [(h0, .inr (4, [.int 5, .int 4, .null, .int ho, .int hn])), (q_1, .inl (G.2.1.2, 20, .inr (.inl (fun _ => 0))))]) rfl rfl rfl ?_
  refine sw_putF (pc := 20) (Cn := RX4) (T := TX4) (N := 5) (ci := 4) (ty0 := tyX4) (ws' := [(h0, .inr (4, [.int 5, .int 4, .ref q_1, .int ho, .int hn])), (q_1, .inl (G.2.1.2, 20, .inr (.inl (fun _ => 0))))]) F (T.2.2.2.2.1) in4 tyX4_ok nmX4 0 rfl rfl 2 (by decide) rfl (List.mem_of_getElem? (i := 7) rfl) rfl rfl rfl (Nat.le_of_ble_eq_true rfl) dX4_init_20 rfl ?_
  exact sw_vret (pc := 23) F T q_1 trivial rfl dX4_init_23
def f_X4_copyFrom_20_o1 (hf : Nat → Int64) (zf : Nat → Int64) : Nat → Int64 := (va_cpy zf hf 0 0 20)
set_option maxHeartbeats 4000000 in
set_option maxRecDepth 100000 in
theorem k_X4_copyFrom_20 (l : Launch) (G : sw_E) (h0 : Nat) (c0 : Nat) (g0 : Nat) (c1 : Nat) (hc : Int32) (hw : Int32) (ho : Int32) (hn : Int32) (hf : Nat → Int64) (zc : Int32) (zw : Int32) (zo : Int32) (zn : Int32) (zf : Nat → Int64)  : sw_M l G yX4_copyFrom wsX4_copyFrom ({ frames := 1, cells := 0, slots := 0, locals := 40 } : Room) [.ref h0, .ref g0] [(h0, .inr (4, [.int hc, .int hw, .ref c0, .int ho, .int hn])), (c0, .inl (G.2.1.2, 20, .inr (.inl hf))), (g0, .inr (4, [.int zc, .int zw, .ref c1, .int zo, .int zn])), (c1, .inl (G.2.1.2, 20, .inr (.inl zf)))] (sw_QV G (S := (Nat → Int64)) (fun (u : (Nat → Int64)) => u = f_X4_copyFrom_20_o1 hf zf) (fun u => [(h0, .inr (4, [.int hc, .int hw, .ref c0, .int zo, .int zn])), (c0, .inl (G.2.1.2, 20, .inr (.inl u))), (g0, .inr (4, [.int zc, .int zw, .ref c1, .int zo, .int zn])), (c1, .inl (G.2.1.2, 20, .inr (.inl zf)))])) 0 0 := by
  refine sw_start (cc := cX4_copyFrom) (maxL := 2) (ret := none) (lv := [(0, .ref h0), (1, .ref g0)]) (own := RX4) (nm := "copyFrom") (by decide +kernel) rfl rfl rfl rfl (Nat.le_of_ble_eq_true rfl) (fun C F T => ?_)
  have in4 : ∀ w ∈ u_ws RX4 TX4 5, w ∈ wsX4_copyFrom := fun w h => List.mem_cons_of_mem _ (List.mem_append_right _ (h))
  refine sw_aload_n (pc := 0) F dX4_copyFrom_0 rfl 1 rfl ?_
  refine sw_get (pc := 1) (Cn := RX4) (T := TX4) (N := 5) (ci := 4) (v := .ref c1) F in4 2 rfl rfl 2 (by decide) rfl (List.mem_of_getElem? (i := 1) rfl) rfl dX4_copyFrom_1 ?_
  refine sw_iconst (pc := 4) (v := 0) F dX4_copyFrom_4 rfl ?_
  refine sw_aload_n (pc := 5) F dX4_copyFrom_5 rfl 0 rfl ?_
  refine sw_get (pc := 6) (Cn := RX4) (T := TX4) (N := 5) (ci := 4) (v := .ref c0) F in4 0 rfl rfl 2 (by decide) rfl (List.mem_of_getElem? (i := 1) rfl) rfl dX4_copyFrom_6 ?_
  refine sw_iconst (pc := 9) (v := 0) F dX4_copyFrom_9 rfl ?_
  refine sw_aload_n (pc := 10) F dX4_copyFrom_10 rfl 0 rfl ?_
  refine sw_get (pc := 11) (Cn := RX4) (T := TX4) (N := 5) (ci := 4) (v := .ref c0) F in4 0 rfl rfl 2 (by decide) rfl (List.mem_of_getElem? (i := 1) rfl) rfl dX4_copyFrom_11 ?_
  refine sw_alenJ (pc := 14) (v := 20) F 1 rfl rfl dX4_copyFrom_14 ?_
  obtain ⟨f_1, ef_1⟩ : ∃ y : Nat → Int64, y = va_cpy zf hf 0 0 20 := ⟨_, rfl⟩
  refine sw_cpyJ (pc := 15) (rm := ({ frames := 1, cells := 0, slots := 0, locals := 40 } : Room)) (ws' := [(h0, .inr (4, [.int hc, .int hw, .ref c0, .int ho, .int hn])), (c0, .inl (G.2.1.2, 20, .inr (.inl f_1))), (g0, .inr (4, [.int zc, .int zw, .ref c1, .int zo, .int zn])), (c1, .inl (G.2.1.2, 20, .inr (.inl zf)))]) F T.2.1 (List.mem_of_getElem? (i := 2) rfl) (List.mem_of_getElem? (i := 3) rfl) (List.mem_of_getElem? (i := 4) rfl) (List.mem_of_getElem? (i := 5) rfl) 3 1 rfl rfl (by decide) (by decide) (by decide) (by decide) (by decide) (Nat.le_of_ble_eq_true rfl) (Nat.le_of_ble_eq_true rfl) dX4_copyFrom_15 (by rw [ef_1]; rfl) ?_
  refine sw_aload_n (pc := 18) F dX4_copyFrom_18 rfl 0 rfl ?_
  refine sw_aload_n (pc := 19) F dX4_copyFrom_19 rfl 1 rfl ?_
  refine sw_get (pc := 20) (Cn := RX4) (T := TX4) (N := 5) (ci := 4) (v := .int zo) F in4 2 rfl rfl 3 (by decide) rfl (List.mem_of_getElem? (i := 6) rfl) rfl dX4_copyFrom_20 ?_
  refine sw_put (pc := 23) (Cn := RX4) (T := TX4) (N := 5) (ci := 4) (ty0 := tyX4) (ws' := [(h0, .inr (4, [.int hc, .int hw, .ref c0, .int zo, .int hn])), (c0, .inl (G.2.1.2, 20, .inr (.inl f_1))), (g0, .inr (4, [.int zc, .int zw, .ref c1, .int zo, .int zn])), (c1, .inl (G.2.1.2, 20, .inr (.inl zf)))]) F in4 tyX4_ok nmX4 0 rfl rfl 3 (by decide) rfl (List.mem_of_getElem? (i := 6) rfl) rfl rfl rfl (Nat.le_of_ble_eq_true rfl) dX4_copyFrom_23 rfl ?_
  refine sw_aload_n (pc := 26) F dX4_copyFrom_26 rfl 0 rfl ?_
  refine sw_aload_n (pc := 27) F dX4_copyFrom_27 rfl 1 rfl ?_
  refine sw_get (pc := 28) (Cn := RX4) (T := TX4) (N := 5) (ci := 4) (v := .int zn) F in4 2 rfl rfl 4 (by decide) rfl (List.mem_of_getElem? (i := 7) rfl) rfl dX4_copyFrom_28 ?_
  refine sw_put (pc := 31) (Cn := RX4) (T := TX4) (N := 5) (ci := 4) (ty0 := tyX4) (ws' := [(h0, .inr (4, [.int hc, .int hw, .ref c0, .int zo, .int zn])), (c0, .inl (G.2.1.2, 20, .inr (.inl f_1))), (g0, .inr (4, [.int zc, .int zw, .ref c1, .int zo, .int zn])), (c1, .inl (G.2.1.2, 20, .inr (.inl zf)))]) F in4 tyX4_ok nmX4 0 rfl rfl 4 (by decide) rfl (List.mem_of_getElem? (i := 7) rfl) rfl rfl rfl (Nat.le_of_ble_eq_true rfl) dX4_copyFrom_31 rfl ?_
  subst ef_1
  exact sw_vret (pc := 34) F T ((va_cpy zf hf 0 0 20)) rfl rfl dX4_copyFrom_34
set_option maxHeartbeats 4000000 in
set_option maxRecDepth 100000 in
theorem k_X4_init_90 (l : Launch) (G : sw_E) (h0 : Nat) (hc : Int32) (hw : Int32) (ho : Int32) (hn : Int32)  : sw_M l G yX4_init wsX4_init ({ frames := 1, cells := 1, slots := 90, locals := 12 } : Room) [.ref h0, .int 30, .int 3] [(h0, .inr (4, [.int hc, .int hw, .null, .int ho, .int hn]))] (sw_QV G (S := Nat) (fun (u : Nat) => True) (fun u => [(h0, .inr (4, [.int 30, .int 3, .ref u, .int ho, .int hn])), (u, .inl (G.2.1.2, 90, .inr (.inl (fun _ => 0))))])) 1 90 := by
  refine sw_start (cc := cX4_init) (maxL := 3) (ret := none) (lv := [(0, .ref h0), (1, .int 30), (2, .int 3)]) (own := RX4) (nm := "<init>") (by decide +kernel) rfl rfl rfl rfl (Nat.le_of_ble_eq_true rfl) (fun C F T => ?_)
  have in4 : ∀ w ∈ u_ws RX4 TX4 5, w ∈ wsX4_init := fun w h => List.mem_cons_of_mem _ (List.mem_append_right _ (h))
  refine sw_aload_n (pc := 0) F dX4_init_0 rfl 0 rfl ?_
  refine sw_objInit (pc := 1) (rm := ({ frames := 1, cells := 1, slots := 90, locals := 12 } : Room)) F T.2.1 (List.mem_of_getElem? (i := 1) rfl) (List.mem_of_getElem? (i := 2) rfl) (List.mem_of_getElem? (i := 3) rfl) dX4_init_1 (Nat.le_of_ble_eq_true rfl) (Nat.le_of_ble_eq_true rfl) ?_
  refine sw_aload_n (pc := 4) F dX4_init_4 rfl 0 rfl ?_
  refine sw_iload_n (pc := 5) F dX4_init_5 rfl 1 rfl ?_
  refine sw_putF (pc := 6) (Cn := RX4) (T := TX4) (N := 5) (ci := 4) (ty0 := tyX4) (ws' := [(h0, .inr (4, [.int 30, .int hw, .null, .int ho, .int hn]))]) F (T.2.2.2.2.1) in4 tyX4_ok nmX4 0 rfl rfl 0 (by decide) rfl (List.mem_of_getElem? (i := 4) rfl) rfl rfl rfl (Nat.le_of_ble_eq_true rfl) dX4_init_6 rfl ?_
  refine sw_aload_n (pc := 9) F dX4_init_9 rfl 0 rfl ?_
  refine sw_iload_n (pc := 10) F dX4_init_10 rfl 2 rfl ?_
  refine sw_putF (pc := 11) (Cn := RX4) (T := TX4) (N := 5) (ci := 4) (ty0 := tyX4) (ws' := [(h0, .inr (4, [.int 30, .int 3, .null, .int ho, .int hn]))]) F (T.2.2.2.2.1) in4 tyX4_ok nmX4 0 rfl rfl 1 (by decide) rfl (List.mem_of_getElem? (i := 5) rfl) rfl rfl rfl (Nat.le_of_ble_eq_true rfl) dX4_init_11 rfl ?_
  refine sw_aload_n (pc := 14) F dX4_init_14 rfl 0 rfl ?_
  refine sw_iload_n (pc := 15) F dX4_init_15 rfl 1 rfl ?_
  refine sw_iload_n (pc := 16) F dX4_init_16 rfl 2 rfl ?_
  refine sw_imul (pc := 17) F dX4_init_17 ?_
  refine sw_eqt (v := .int 90) (by rfl) ?_
  refine sw_newJ (pc := 18) (N := 90) (rm := ({ frames := 1, cells := 1, slots := 90, locals := 12 } : Room)) (k' := 1) (n' := 90) F T.2.1 (List.mem_of_getElem? (i := 6) rfl) (by decide) rfl (by decide) rfl rfl (Nat.le_of_ble_eq_true rfl) (Nat.le_of_ble_eq_true rfl) dX4_init_18 (fun q_1 => ?_)
  refine sw_eq (ws' := [(h0, .inr (4, [.int 30, .int 3, .null, .int ho, .int hn])), (q_1, .inl (G.2.1.2, 90, .inr (.inl (fun _ => 0))))]) rfl rfl rfl ?_
  refine sw_putF (pc := 20) (Cn := RX4) (T := TX4) (N := 5) (ci := 4) (ty0 := tyX4) (ws' := [(h0, .inr (4, [.int 30, .int 3, .ref q_1, .int ho, .int hn])), (q_1, .inl (G.2.1.2, 90, .inr (.inl (fun _ => 0))))]) F (T.2.2.2.2.1) in4 tyX4_ok nmX4 0 rfl rfl 2 (by decide) rfl (List.mem_of_getElem? (i := 7) rfl) rfl rfl rfl (Nat.le_of_ble_eq_true rfl) dX4_init_20 rfl ?_
  exact sw_vret (pc := 23) F T q_1 trivial rfl dX4_init_23
def f_X4_copyFrom_90_o1 (hf : Nat → Int64) (zf : Nat → Int64) : Nat → Int64 := (va_cpy zf hf 0 0 90)
set_option maxHeartbeats 4000000 in
set_option maxRecDepth 100000 in
theorem k_X4_copyFrom_90 (l : Launch) (G : sw_E) (h0 : Nat) (c0 : Nat) (g0 : Nat) (c1 : Nat) (hc : Int32) (hw : Int32) (ho : Int32) (hn : Int32) (hf : Nat → Int64) (zc : Int32) (zw : Int32) (zo : Int32) (zn : Int32) (zf : Nat → Int64)  : sw_M l G yX4_copyFrom wsX4_copyFrom ({ frames := 1, cells := 0, slots := 0, locals := 40 } : Room) [.ref h0, .ref g0] [(h0, .inr (4, [.int hc, .int hw, .ref c0, .int ho, .int hn])), (c0, .inl (G.2.1.2, 90, .inr (.inl hf))), (g0, .inr (4, [.int zc, .int zw, .ref c1, .int zo, .int zn])), (c1, .inl (G.2.1.2, 90, .inr (.inl zf)))] (sw_QV G (S := (Nat → Int64)) (fun (u : (Nat → Int64)) => u = f_X4_copyFrom_90_o1 hf zf) (fun u => [(h0, .inr (4, [.int hc, .int hw, .ref c0, .int zo, .int zn])), (c0, .inl (G.2.1.2, 90, .inr (.inl u))), (g0, .inr (4, [.int zc, .int zw, .ref c1, .int zo, .int zn])), (c1, .inl (G.2.1.2, 90, .inr (.inl zf)))])) 0 0 := by
  refine sw_start (cc := cX4_copyFrom) (maxL := 2) (ret := none) (lv := [(0, .ref h0), (1, .ref g0)]) (own := RX4) (nm := "copyFrom") (by decide +kernel) rfl rfl rfl rfl (Nat.le_of_ble_eq_true rfl) (fun C F T => ?_)
  have in4 : ∀ w ∈ u_ws RX4 TX4 5, w ∈ wsX4_copyFrom := fun w h => List.mem_cons_of_mem _ (List.mem_append_right _ (h))
  refine sw_aload_n (pc := 0) F dX4_copyFrom_0 rfl 1 rfl ?_
  refine sw_get (pc := 1) (Cn := RX4) (T := TX4) (N := 5) (ci := 4) (v := .ref c1) F in4 2 rfl rfl 2 (by decide) rfl (List.mem_of_getElem? (i := 1) rfl) rfl dX4_copyFrom_1 ?_
  refine sw_iconst (pc := 4) (v := 0) F dX4_copyFrom_4 rfl ?_
  refine sw_aload_n (pc := 5) F dX4_copyFrom_5 rfl 0 rfl ?_
  refine sw_get (pc := 6) (Cn := RX4) (T := TX4) (N := 5) (ci := 4) (v := .ref c0) F in4 0 rfl rfl 2 (by decide) rfl (List.mem_of_getElem? (i := 1) rfl) rfl dX4_copyFrom_6 ?_
  refine sw_iconst (pc := 9) (v := 0) F dX4_copyFrom_9 rfl ?_
  refine sw_aload_n (pc := 10) F dX4_copyFrom_10 rfl 0 rfl ?_
  refine sw_get (pc := 11) (Cn := RX4) (T := TX4) (N := 5) (ci := 4) (v := .ref c0) F in4 0 rfl rfl 2 (by decide) rfl (List.mem_of_getElem? (i := 1) rfl) rfl dX4_copyFrom_11 ?_
  refine sw_alenJ (pc := 14) (v := 90) F 1 rfl rfl dX4_copyFrom_14 ?_
  obtain ⟨f_1, ef_1⟩ : ∃ y : Nat → Int64, y = va_cpy zf hf 0 0 90 := ⟨_, rfl⟩
  refine sw_cpyJ (pc := 15) (rm := ({ frames := 1, cells := 0, slots := 0, locals := 40 } : Room)) (ws' := [(h0, .inr (4, [.int hc, .int hw, .ref c0, .int ho, .int hn])), (c0, .inl (G.2.1.2, 90, .inr (.inl f_1))), (g0, .inr (4, [.int zc, .int zw, .ref c1, .int zo, .int zn])), (c1, .inl (G.2.1.2, 90, .inr (.inl zf)))]) F T.2.1 (List.mem_of_getElem? (i := 2) rfl) (List.mem_of_getElem? (i := 3) rfl) (List.mem_of_getElem? (i := 4) rfl) (List.mem_of_getElem? (i := 5) rfl) 3 1 rfl rfl (by decide) (by decide) (by decide) (by decide) (by decide) (Nat.le_of_ble_eq_true rfl) (Nat.le_of_ble_eq_true rfl) dX4_copyFrom_15 (by rw [ef_1]; rfl) ?_
  refine sw_aload_n (pc := 18) F dX4_copyFrom_18 rfl 0 rfl ?_
  refine sw_aload_n (pc := 19) F dX4_copyFrom_19 rfl 1 rfl ?_
  refine sw_get (pc := 20) (Cn := RX4) (T := TX4) (N := 5) (ci := 4) (v := .int zo) F in4 2 rfl rfl 3 (by decide) rfl (List.mem_of_getElem? (i := 6) rfl) rfl dX4_copyFrom_20 ?_
  refine sw_put (pc := 23) (Cn := RX4) (T := TX4) (N := 5) (ci := 4) (ty0 := tyX4) (ws' := [(h0, .inr (4, [.int hc, .int hw, .ref c0, .int zo, .int hn])), (c0, .inl (G.2.1.2, 90, .inr (.inl f_1))), (g0, .inr (4, [.int zc, .int zw, .ref c1, .int zo, .int zn])), (c1, .inl (G.2.1.2, 90, .inr (.inl zf)))]) F in4 tyX4_ok nmX4 0 rfl rfl 3 (by decide) rfl (List.mem_of_getElem? (i := 6) rfl) rfl rfl rfl (Nat.le_of_ble_eq_true rfl) dX4_copyFrom_23 rfl ?_
  refine sw_aload_n (pc := 26) F dX4_copyFrom_26 rfl 0 rfl ?_
  refine sw_aload_n (pc := 27) F dX4_copyFrom_27 rfl 1 rfl ?_
  refine sw_get (pc := 28) (Cn := RX4) (T := TX4) (N := 5) (ci := 4) (v := .int zn) F in4 2 rfl rfl 4 (by decide) rfl (List.mem_of_getElem? (i := 7) rfl) rfl dX4_copyFrom_28 ?_
  refine sw_put (pc := 31) (Cn := RX4) (T := TX4) (N := 5) (ci := 4) (ty0 := tyX4) (ws' := [(h0, .inr (4, [.int hc, .int hw, .ref c0, .int zo, .int zn])), (c0, .inl (G.2.1.2, 90, .inr (.inl f_1))), (g0, .inr (4, [.int zc, .int zw, .ref c1, .int zo, .int zn])), (c1, .inl (G.2.1.2, 90, .inr (.inl zf)))]) F in4 tyX4_ok nmX4 0 rfl rfl 4 (by decide) rfl (List.mem_of_getElem? (i := 7) rfl) rfl rfl rfl (Nat.le_of_ble_eq_true rfl) dX4_copyFrom_31 rfl ?_
  subst ef_1
  exact sw_vret (pc := 34) F T ((va_cpy zf hf 0 0 90)) rfl rfl dX4_copyFrom_34
def f_X4_addRow_o0_3 (hc : Int32) (ho : Int32) (hn : Int32) : Int32 := if hc ≤ hn then (if hc ≤ (ho + 1) then (0) else ((ho + 1))) else (ho)
def f_X4_addRow_o0_4 (hc : Int32) (hn : Int32) : Int32 := if hc ≤ hn then (hn) else ((hn + 1))
set_option maxHeartbeats 4000000 in
set_option maxRecDepth 100000 in
theorem k_X4_addRow (l : Launch) (G : sw_E) (h0 : Nat) (c0 : Nat) (N : Nat) (hc : Int32) (hw : Int32) (ho : Int32) (hn : Int32) (hf : Nat → Int64)  : sw_M l G yX4_addRow wsX4_addRow ({ frames := 0, cells := 0, slots := 0, locals := 0 } : Room) [.ref h0] [(h0, .inr (4, [.int hc, .int hw, .ref c0, .int ho, .int hn])), (c0, .inl (G.2.1.2, N, .inr (.inl hf)))] (sw_QV G (S := Int32 × Int32) (fun (u : Int32 × Int32) => u.1 = f_X4_addRow_o0_3 hc ho hn ∧ u.2 = f_X4_addRow_o0_4 hc hn) (fun u => [(h0, .inr (4, [.int hc, .int hw, .ref c0, .int u.1, .int u.2])), (c0, .inl (G.2.1.2, N, .inr (.inl hf)))])) 0 0 := by
  refine sw_start (cc := cX4_addRow) (maxL := 1) (ret := none) (lv := [(0, .ref h0)]) (own := RX4) (nm := "addRow") (by decide +kernel) rfl rfl rfl rfl (Nat.le_of_ble_eq_true rfl) (fun C F T => ?_)
  have in4 : ∀ w ∈ u_ws RX4 TX4 5, w ∈ wsX4_addRow := fun w h => List.mem_cons_of_mem _ (List.mem_append_right _ (h))
  refine sw_aload_n (pc := 0) F dX4_addRow_0 rfl 0 rfl ?_
  refine sw_get (pc := 1) (Cn := RX4) (T := TX4) (N := 5) (ci := 4) (v := .int hn) F in4 0 rfl rfl 4 (by decide) rfl (List.mem_of_getElem? (i := 1) rfl) rfl dX4_addRow_1 ?_
  refine sw_aload_n (pc := 4) F dX4_addRow_4 rfl 0 rfl ?_
  refine sw_get (pc := 5) (Cn := RX4) (T := TX4) (N := 5) (ci := 4) (v := .int hc) F in4 0 rfl rfl 0 (by decide) rfl (List.mem_of_getElem? (i := 2) rfl) rfl dX4_addRow_5 ?_
  refine sw_icmp_ge (pc := 8) (tgt := 24) F dX4_addRow_8 (by decide) (fun c_1 => ?_) (fun c_1 => ?_)
  · skip
    refine sw_aload_n (pc := 24) F dX4_addRow_24 rfl 0 rfl ?_
    refine sw_aload_n (pc := 25) F dX4_addRow_25 rfl 0 rfl ?_
    refine sw_get (pc := 26) (Cn := RX4) (T := TX4) (N := 5) (ci := 4) (v := .int ho) F in4 0 rfl rfl 3 (by decide) rfl (List.mem_of_getElem? (i := 3) rfl) rfl dX4_addRow_26 ?_
    refine sw_iconst (pc := 29) (v := 1) F dX4_addRow_29 rfl ?_
    refine sw_iadd (pc := 30) F dX4_addRow_30 ?_
    refine sw_topi (fun x_2 ex_2 => ?_)
    refine sw_aload_n (pc := 31) F dX4_addRow_31 rfl 0 rfl ?_
    refine sw_get (pc := 32) (Cn := RX4) (T := TX4) (N := 5) (ci := 4) (v := .int hc) F in4 0 rfl rfl 0 (by decide) rfl (List.mem_of_getElem? (i := 2) rfl) rfl dX4_addRow_32 ?_
    refine sw_icmp_ge (pc := 35) (tgt := 47) F dX4_addRow_35 (by decide) (fun c_3 => ?_) (fun c_3 => ?_)
    · skip
      refine sw_iconst (pc := 47) (v := 0) F dX4_addRow_47 rfl ?_
      refine sw_put (pc := 48) (Cn := RX4) (T := TX4) (N := 5) (ci := 4) (ty0 := tyX4) (ws' := [(h0, .inr (4, [.int hc, .int hw, .ref c0, .int 0, .int hn])), (c0, .inl (G.2.1.2, N, .inr (.inl hf)))]) F in4 tyX4_ok nmX4 0 rfl rfl 3 (by decide) rfl (List.mem_of_getElem? (i := 3) rfl) rfl rfl rfl (Nat.le_of_ble_eq_true rfl) dX4_addRow_48 rfl ?_
      subst ex_2
      exact sw_vret (pc := 51) F T (0, hn) ⟨(by unfold f_X4_addRow_o0_3; rw [if_pos c_1, if_pos c_3]), (by unfold f_X4_addRow_o0_4; rw [if_pos c_1])⟩ rfl dX4_addRow_51
    · skip
      refine sw_aload_n (pc := 38) F dX4_addRow_38 rfl 0 rfl ?_
      refine sw_get (pc := 39) (Cn := RX4) (T := TX4) (N := 5) (ci := 4) (v := .int ho) F in4 0 rfl rfl 3 (by decide) rfl (List.mem_of_getElem? (i := 3) rfl) rfl dX4_addRow_39 ?_
      refine sw_iconst (pc := 42) (v := 1) F dX4_addRow_42 rfl ?_
      refine sw_iadd (pc := 43) F dX4_addRow_43 ?_
      refine sw_topi (fun x_4 ex_4 => ?_)
      refine sw_goto (pc := 44) (tgt := 48) F dX4_addRow_44 (by decide) ?_
      refine sw_put (pc := 48) (Cn := RX4) (T := TX4) (N := 5) (ci := 4) (ty0 := tyX4) (ws' := [(h0, .inr (4, [.int hc, .int hw, .ref c0, .int x_4, .int hn])), (c0, .inl (G.2.1.2, N, .inr (.inl hf)))]) F in4 tyX4_ok nmX4 0 rfl rfl 3 (by decide) rfl (List.mem_of_getElem? (i := 3) rfl) rfl rfl rfl (Nat.le_of_ble_eq_true rfl) dX4_addRow_48 rfl ?_
      subst ex_4
      subst ex_2
      exact sw_vret (pc := 51) F T ((ho + 1), hn) ⟨(by unfold f_X4_addRow_o0_3; rw [if_pos c_1, if_neg c_3]), (by unfold f_X4_addRow_o0_4; rw [if_pos c_1])⟩ rfl dX4_addRow_51
  · skip
    refine sw_aload_n (pc := 11) F dX4_addRow_11 rfl 0 rfl ?_
    refine sw_dup (pc := 12) F dX4_addRow_12 rfl ?_
    refine sw_get (pc := 13) (Cn := RX4) (T := TX4) (N := 5) (ci := 4) (v := .int hn) F in4 0 rfl rfl 4 (by decide) rfl (List.mem_of_getElem? (i := 1) rfl) rfl dX4_addRow_13 ?_
    refine sw_iconst (pc := 16) (v := 1) F dX4_addRow_16 rfl ?_
    refine sw_iadd (pc := 17) F dX4_addRow_17 ?_
    refine sw_topi (fun x_5 ex_5 => ?_)
    refine sw_put (pc := 18) (Cn := RX4) (T := TX4) (N := 5) (ci := 4) (ty0 := tyX4) (ws' := [(h0, .inr (4, [.int hc, .int hw, .ref c0, .int ho, .int x_5])), (c0, .inl (G.2.1.2, N, .inr (.inl hf)))]) F in4 tyX4_ok nmX4 0 rfl rfl 4 (by decide) rfl (List.mem_of_getElem? (i := 1) rfl) rfl rfl rfl (Nat.le_of_ble_eq_true rfl) dX4_addRow_18 rfl ?_
    refine sw_goto (pc := 21) (tgt := 51) F dX4_addRow_21 (by decide) ?_
    subst ex_5
    exact sw_vret (pc := 51) F T (ho, (hn + 1)) ⟨(by unfold f_X4_addRow_o0_3; rw [if_neg c_1]), (by unfold f_X4_addRow_o0_4; rw [if_neg c_1])⟩ rfl dX4_addRow_51
def f_X4_cellOf_r (hc : Int32) (hw : Int32) (ho : Int32) (i : Int32) (j : Int32) : Int32 := if (ho + i) < hc then ((((ho + i) * hw) + j)) else (((((ho + i) - hc) * hw) + j))
set_option maxHeartbeats 4000000 in
set_option maxRecDepth 100000 in
theorem k_X4_cellOf (l : Launch) (G : sw_E) (h0 : Nat) (c0 : Nat) (N : Nat) (hc : Int32) (hw : Int32) (ho : Int32) (hn : Int32) (hf : Nat → Int64) (i : Int32) (j : Int32)  : sw_M l G yX4_cellOf wsX4_cellOf ({ frames := 0, cells := 0, slots := 0, locals := 0 } : Room) [.ref h0, .int i, .int j] [(h0, .inr (4, [.int hc, .int hw, .ref c0, .int ho, .int hn])), (c0, .inl (G.2.1.2, N, .inr (.inl hf)))] (sw_QI G (S := Unit) (fun (r : Int32) (_ : Unit) => r = f_X4_cellOf_r hc hw ho i j) (fun _ => [(h0, .inr (4, [.int hc, .int hw, .ref c0, .int ho, .int hn])), (c0, .inl (G.2.1.2, N, .inr (.inl hf)))])) 0 0 := by
  refine sw_start (cc := cX4_cellOf) (maxL := 4) (ret := some .int) (lv := [(0, .ref h0), (1, .int i), (2, .int j)]) (own := RX4) (nm := "cellOf") (by decide +kernel) rfl rfl rfl rfl (Nat.le_of_ble_eq_true rfl) (fun C F T => ?_)
  have in4 : ∀ w ∈ u_ws RX4 TX4 5, w ∈ wsX4_cellOf := fun w h => List.mem_cons_of_mem _ (List.mem_append_right _ (h))
  refine sw_aload_n (pc := 0) F dX4_cellOf_0 rfl 0 rfl ?_
  refine sw_get (pc := 1) (Cn := RX4) (T := TX4) (N := 5) (ci := 4) (v := .int ho) F in4 0 rfl rfl 3 (by decide) rfl (List.mem_of_getElem? (i := 1) rfl) rfl dX4_cellOf_1 ?_
  refine sw_iload_n (pc := 4) F dX4_cellOf_4 rfl 1 rfl ?_
  refine sw_iadd (pc := 5) F dX4_cellOf_5 ?_
  refine sw_topi (fun x_1 ex_1 => ?_)
  refine sw_istore_n (pc := 6) (lv' := [(3, .int x_1), (0, .ref h0), (1, .int i), (2, .int j)]) F T.1 dX4_cellOf_6 rfl (by decide) rfl ?_
  refine sw_iload_n (pc := 7) F dX4_cellOf_7 rfl 0 rfl ?_
  refine sw_aload_n (pc := 8) F dX4_cellOf_8 rfl 1 rfl ?_
  refine sw_get (pc := 9) (Cn := RX4) (T := TX4) (N := 5) (ci := 4) (v := .int hc) F in4 0 rfl rfl 0 (by decide) rfl (List.mem_of_getElem? (i := 2) rfl) rfl dX4_cellOf_9 ?_
  refine sw_icmp_lt (pc := 12) (tgt := 22) F dX4_cellOf_12 (by decide) (fun c_2 => ?_) (fun c_2 => ?_)
  · skip
    refine sw_iload_n (pc := 22) F dX4_cellOf_22 rfl 0 rfl ?_
    refine sw_aload_n (pc := 23) F dX4_cellOf_23 rfl 1 rfl ?_
    refine sw_get (pc := 24) (Cn := RX4) (T := TX4) (N := 5) (ci := 4) (v := .int hw) F in4 0 rfl rfl 1 (by decide) rfl (List.mem_of_getElem? (i := 3) rfl) rfl dX4_cellOf_24 ?_
    refine sw_imul (pc := 27) F dX4_cellOf_27 ?_
    refine sw_topi (fun x_3 ex_3 => ?_)
    refine sw_iload_n (pc := 28) F dX4_cellOf_28 rfl 3 rfl ?_
    refine sw_iadd (pc := 29) F dX4_cellOf_29 ?_
    refine sw_topi (fun x_4 ex_4 => ?_)
    subst ex_4
    subst ex_3
    subst ex_1
    exact sw_iret (pc := 30) F T rfl rfl () (by unfold f_X4_cellOf_r; rw [if_pos c_2]) rfl dX4_cellOf_30
  · skip
    refine sw_iload_n (pc := 15) F dX4_cellOf_15 rfl 0 rfl ?_
    refine sw_aload_n (pc := 16) F dX4_cellOf_16 rfl 1 rfl ?_
    refine sw_get (pc := 17) (Cn := RX4) (T := TX4) (N := 5) (ci := 4) (v := .int hc) F in4 0 rfl rfl 0 (by decide) rfl (List.mem_of_getElem? (i := 2) rfl) rfl dX4_cellOf_17 ?_
    refine sw_isub (pc := 20) F dX4_cellOf_20 ?_
    refine sw_topi (fun x_5 ex_5 => ?_)
    refine sw_istore_n (pc := 21) (lv' := [(3, .int x_5), (0, .ref h0), (1, .int i), (2, .int j)]) F T.1 dX4_cellOf_21 rfl (by decide) rfl ?_
    refine sw_iload_n (pc := 22) F dX4_cellOf_22 rfl 0 rfl ?_
    refine sw_aload_n (pc := 23) F dX4_cellOf_23 rfl 1 rfl ?_
    refine sw_get (pc := 24) (Cn := RX4) (T := TX4) (N := 5) (ci := 4) (v := .int hw) F in4 0 rfl rfl 1 (by decide) rfl (List.mem_of_getElem? (i := 3) rfl) rfl dX4_cellOf_24 ?_
    refine sw_imul (pc := 27) F dX4_cellOf_27 ?_
    refine sw_topi (fun x_6 ex_6 => ?_)
    refine sw_iload_n (pc := 28) F dX4_cellOf_28 rfl 3 rfl ?_
    refine sw_iadd (pc := 29) F dX4_cellOf_29 ?_
    refine sw_topi (fun x_7 ex_7 => ?_)
    subst ex_7
    subst ex_6
    subst ex_5
    subst ex_1
    exact sw_iret (pc := 30) F T rfl rfl () (by unfold f_X4_cellOf_r; rw [if_neg c_2]) rfl dX4_cellOf_30
def f_X4_put_o1 (N : Nat) (hc : Int32) (hw : Int32) (ho : Int32) (hn : Int32) (hf : Nat → Int64) (j : Int32) (x : Int64) : Nat → Int64 := if (f_X4_cellOf_r hc hw ho (hn - 1) j) < 0 then (hf) else (if (Int32.ofNat N) ≤ (f_X4_cellOf_r hc hw ho (hn - 1) j) then (hf) else ((vp_updL hf (f_X4_cellOf_r hc hw ho (hn - 1) j).toNatClampNeg x)))
set_option maxHeartbeats 4000000 in
set_option maxRecDepth 100000 in
theorem k_X4_put (l : Launch) (G : sw_E) (h0 : Nat) (c0 : Nat) (N : Nat) (hc : Int32) (hw : Int32) (ho : Int32) (hn : Int32) (hf : Nat → Int64) (j : Int32) (x : Int64) (hN : N < 2 ^ 31) : sw_M l G yX4_put wsX4_put ({ frames := 1, cells := 0, slots := 0, locals := 23 } : Room) [.ref h0, .int j, .long x] [(h0, .inr (4, [.int hc, .int hw, .ref c0, .int ho, .int hn])), (c0, .inl (G.2.1.2, N, .inr (.inl hf)))] (sw_QV G (S := (Nat → Int64)) (fun (u : (Nat → Int64)) => u = f_X4_put_o1 N hc hw ho hn hf j x) (fun u => [(h0, .inr (4, [.int hc, .int hw, .ref c0, .int ho, .int hn])), (c0, .inl (G.2.1.2, N, .inr (.inl u)))])) 0 0 := by
  refine sw_start (cc := cX4_put) (maxL := 5) (ret := none) (lv := [(0, .ref h0), (1, .int j), (2, .long x)]) (own := RX4) (nm := "put") (by decide +kernel) rfl rfl rfl rfl (Nat.le_of_ble_eq_true rfl) (fun C F T => ?_)
  have in4 : ∀ w ∈ u_ws RX4 TX4 5, w ∈ wsX4_put := fun w h => List.mem_cons_of_mem _ (List.mem_append_right _ (h))
  refine sw_aload_n (pc := 0) F dX4_put_0 rfl 0 rfl ?_
  refine sw_aload_n (pc := 1) F dX4_put_1 rfl 0 rfl ?_
  refine sw_get (pc := 2) (Cn := RX4) (T := TX4) (N := 5) (ci := 4) (v := .int hn) F in4 0 rfl rfl 4 (by decide) rfl (List.mem_of_getElem? (i := 1) rfl) rfl dX4_put_2 ?_
  refine sw_iconst (pc := 5) (v := 1) F dX4_put_5 rfl ?_
  refine sw_isub (pc := 6) F dX4_put_6 ?_
  refine sw_topi (fun x_1 ex_1 => ?_)
  refine sw_iload_n (pc := 7) F dX4_put_7 rfl 1 rfl ?_
  refine sw_calli (pc := 8) (wr := []) (k' := 0) (n' := 0) F (sw_runV (R := ({ frames := 1, cells := 0, slots := 0, locals := 23 } : Room)) (q0 := 0) (na := 2) F T.2.1 T.2.2.1 (k_X4_cellOf l G h0 c0 N hc hw ho hn hf x_1 j) [0, 1] rfl (by decide) gX4_put_X4_cellOf rfl rfl rfl (by decide +kernel) ⟨Nat.le_of_ble_eq_true rfl, Nat.le_of_ble_eq_true rfl⟩ rfl rfl rfl rfl rfl (Nat.le_of_ble_eq_true rfl) dX4_put_8 (Nat.le_of_ble_eq_true rfl) (Nat.le_of_ble_eq_true rfl)) [0, 1] [] rfl rfl (by decide) (by decide) rfl rfl (fun r_2 u_3 h_4 => ?_)
  have e_5 : r_2 = f_X4_cellOf_r hc hw ho x_1 j := h_4
  refine sw_eq (ws' := [(h0, .inr (4, [.int hc, .int hw, .ref c0, .int ho, .int hn])), (c0, .inl (G.2.1.2, N, .inr (.inl hf)))]) (lv' := [(0, .ref h0), (1, .int j), (2, .long x)]) (st' := [.int r_2]) rfl rfl rfl ?_
  refine sw_istore (pc := 11) (lv' := [(4, .int r_2), (0, .ref h0), (1, .int j), (2, .long x)]) F T.1 dX4_put_11 (by decide) rfl ?_
  refine sw_iload (pc := 13) F dX4_put_13 0 rfl ?_
  refine sw_if_lt (pc := 15) (tgt := 36) F dX4_put_15 (by decide) (fun c_6 => ?_) (fun c_6 => ?_)
  · skip
    subst e_5
    subst ex_1
    exact sw_vret (pc := 36) F T hf (by unfold f_X4_put_o1; rw [if_pos c_6]) rfl dX4_put_36
  · skip
    refine sw_iload (pc := 18) F dX4_put_18 0 rfl ?_
    refine sw_aload_n (pc := 20) F dX4_put_20 rfl 1 rfl ?_
    refine sw_get (pc := 21) (Cn := RX4) (T := TX4) (N := 5) (ci := 4) (v := .ref c0) F in4 0 rfl rfl 2 (by decide) rfl (List.mem_of_getElem? (i := 2) rfl) rfl dX4_put_21 ?_
    refine sw_alenJ (pc := 24) (v := (Int32.ofNat N)) F 1 rfl rfl dX4_put_24 ?_
    refine sw_icmp_ge (pc := 25) (tgt := 36) F dX4_put_25 (by decide) (fun c_7 => ?_) (fun c_7 => ?_)
    · skip
      subst e_5
      subst ex_1
      exact sw_vret (pc := 36) F T hf (by unfold f_X4_put_o1; rw [if_neg c_6, if_pos c_7]) rfl dX4_put_36
    · skip
      refine sw_aload_n (pc := 28) F dX4_put_28 rfl 1 rfl ?_
      refine sw_get (pc := 29) (Cn := RX4) (T := TX4) (N := 5) (ci := 4) (v := .ref c0) F in4 0 rfl rfl 2 (by decide) rfl (List.mem_of_getElem? (i := 2) rfl) rfl dX4_put_29 ?_
      refine sw_iload (pc := 32) F dX4_put_32 0 rfl ?_
      refine sw_lload_n (pc := 34) F dX4_put_34 rfl 3 rfl ?_
      obtain ⟨f_8, ef_8⟩ : ∃ y : Nat → Int64, y = vp_updL hf r_2.toNatClampNeg x := ⟨_, rfl⟩
      refine sw_last (pc := 35) (ws' := [(h0, .inr (4, [.int hc, .int hw, .ref c0, .int ho, .int hn])), (c0, .inl (G.2.1.2, N, .inr (.inl f_8)))]) F 1 rfl (sw_vpin hN c_6 c_7) dX4_put_35 (by rw [ef_8]; rfl) ?_
      subst ef_8
      subst e_5
      subst ex_1
      exact sw_vret (pc := 36) F T ((vp_updL hf (f_X4_cellOf_r hc hw ho (hn - 1) j).toNatClampNeg x)) (by unfold f_X4_put_o1; rw [if_neg c_6, if_neg c_7]) rfl dX4_put_36
def f_X4_valueAt_r (N : Nat) (hc : Int32) (hw : Int32) (ho : Int32) (hf : Nat → Int64) (i : Int32) (j : Int32) : Int64 := if (f_X4_cellOf_r hc hw ho i j) < 0 then (0) else (if (Int32.ofNat N) ≤ (f_X4_cellOf_r hc hw ho i j) then (0) else ((hf (f_X4_cellOf_r hc hw ho i j).toNatClampNeg)))
set_option maxHeartbeats 4000000 in
set_option maxRecDepth 100000 in
theorem k_X4_valueAt (l : Launch) (G : sw_E) (h0 : Nat) (c0 : Nat) (N : Nat) (hc : Int32) (hw : Int32) (ho : Int32) (hn : Int32) (hf : Nat → Int64) (i : Int32) (j : Int32) (hN : N < 2 ^ 31) : sw_M l G yX4_valueAt wsX4_valueAt ({ frames := 1, cells := 0, slots := 0, locals := 23 } : Room) [.ref h0, .int i, .int j] [(h0, .inr (4, [.int hc, .int hw, .ref c0, .int ho, .int hn])), (c0, .inl (G.2.1.2, N, .inr (.inl hf)))] (sw_QL G (S := Unit) (fun (r : Int64) (_ : Unit) => r = f_X4_valueAt_r N hc hw ho hf i j) (fun _ => [(h0, .inr (4, [.int hc, .int hw, .ref c0, .int ho, .int hn])), (c0, .inl (G.2.1.2, N, .inr (.inl hf)))])) 0 0 := by
  refine sw_start (cc := cX4_valueAt) (maxL := 4) (ret := some .long) (lv := [(0, .ref h0), (1, .int i), (2, .int j)]) (own := RX4) (nm := "valueAt") (by decide +kernel) rfl rfl rfl rfl (Nat.le_of_ble_eq_true rfl) (fun C F T => ?_)
  have in4 : ∀ w ∈ u_ws RX4 TX4 5, w ∈ wsX4_valueAt := fun w h => List.mem_cons_of_mem _ (List.mem_append_right _ (h))
  refine sw_aload_n (pc := 0) F dX4_valueAt_0 rfl 0 rfl ?_
  refine sw_iload_n (pc := 1) F dX4_valueAt_1 rfl 1 rfl ?_
  refine sw_iload_n (pc := 2) F dX4_valueAt_2 rfl 2 rfl ?_
  refine sw_calli (pc := 3) (wr := []) (k' := 0) (n' := 0) F (sw_runV (R := ({ frames := 1, cells := 0, slots := 0, locals := 23 } : Room)) (q0 := 0) (na := 2) F T.2.1 T.2.2.1 (k_X4_cellOf l G h0 c0 N hc hw ho hn hf i j) [0, 1] rfl (by decide) gX4_valueAt_X4_cellOf rfl rfl rfl (by decide +kernel) ⟨Nat.le_of_ble_eq_true rfl, Nat.le_of_ble_eq_true rfl⟩ rfl rfl rfl rfl rfl (Nat.le_of_ble_eq_true rfl) dX4_valueAt_3 (Nat.le_of_ble_eq_true rfl) (Nat.le_of_ble_eq_true rfl)) [0, 1] [] rfl rfl (by decide) (by decide) rfl rfl (fun r_1 u_2 h_3 => ?_)
  have e_4 : r_1 = f_X4_cellOf_r hc hw ho i j := h_3
  refine sw_eq (ws' := [(h0, .inr (4, [.int hc, .int hw, .ref c0, .int ho, .int hn])), (c0, .inl (G.2.1.2, N, .inr (.inl hf)))]) (lv' := [(0, .ref h0), (1, .int i), (2, .int j)]) (st' := [.int r_1]) rfl rfl rfl ?_
  refine sw_istore_n (pc := 6) (lv' := [(3, .int r_1), (0, .ref h0), (1, .int i), (2, .int j)]) F T.1 dX4_valueAt_6 rfl (by decide) rfl ?_
  refine sw_iload_n (pc := 7) F dX4_valueAt_7 rfl 0 rfl ?_
  refine sw_if_lt (pc := 8) (tgt := 29) F dX4_valueAt_8 (by decide) (fun c_5 => ?_) (fun c_5 => ?_)
  · skip
    refine sw_lconst (pc := 29) (v := 0) F dX4_valueAt_29 rfl ?_
    subst e_4
    exact sw_lret (pc := 30) F T () (by unfold f_X4_valueAt_r; rw [if_pos c_5]) rfl dX4_valueAt_30
  · skip
    refine sw_iload_n (pc := 11) F dX4_valueAt_11 rfl 0 rfl ?_
    refine sw_aload_n (pc := 12) F dX4_valueAt_12 rfl 1 rfl ?_
    refine sw_get (pc := 13) (Cn := RX4) (T := TX4) (N := 5) (ci := 4) (v := .ref c0) F in4 0 rfl rfl 2 (by decide) rfl (List.mem_of_getElem? (i := 1) rfl) rfl dX4_valueAt_13 ?_
    refine sw_alenJ (pc := 16) (v := (Int32.ofNat N)) F 1 rfl rfl dX4_valueAt_16 ?_
    refine sw_icmp_ge (pc := 17) (tgt := 29) F dX4_valueAt_17 (by decide) (fun c_6 => ?_) (fun c_6 => ?_)
    · skip
      refine sw_lconst (pc := 29) (v := 0) F dX4_valueAt_29 rfl ?_
      subst e_4
      exact sw_lret (pc := 30) F T () (by unfold f_X4_valueAt_r; rw [if_neg c_5, if_pos c_6]) rfl dX4_valueAt_30
    · skip
      refine sw_aload_n (pc := 20) F dX4_valueAt_20 rfl 1 rfl ?_
      refine sw_get (pc := 21) (Cn := RX4) (T := TX4) (N := 5) (ci := 4) (v := .ref c0) F in4 0 rfl rfl 2 (by decide) rfl (List.mem_of_getElem? (i := 1) rfl) rfl dX4_valueAt_21 ?_
      refine sw_iload_n (pc := 24) F dX4_valueAt_24 rfl 0 rfl ?_
      refine sw_lald (pc := 25) F 1 rfl (sw_vpin hN c_5 c_6) dX4_valueAt_25 ?_
      refine sw_naml (e := hf r_1.toNatClampNeg) rfl (fun x_7 ex_7 => ?_)
      refine sw_goto (pc := 26) (tgt := 30) F dX4_valueAt_26 (by decide) ?_
      subst ex_7
      subst e_4
      exact sw_lret (pc := 30) F T () (by unfold f_X4_valueAt_r; rw [if_neg c_5, if_neg c_6]) rfl dX4_valueAt_30
def f_X3_init_o1  : Nat → Int32 := (upd (upd (upd (upd (upd (upd (fun _ => 0) 0 10000) 1 10000) 2 10000) 3 10000) 4 10000) 5 10000)
def f_X3_init_o2  : Nat → Int32 := (upd (upd (upd (upd (upd (fun _ => 0) 0 10000) 1 10000) 2 10000) 3 10000) 4 10000)
set_option maxHeartbeats 4000000 in
set_option maxRecDepth 100000 in
theorem k_X3_init (l : Launch) (G : sw_E) (h0 : Nat) (pm : Int32) (pk : Int32)  : sw_M l G yX3_init wsX3_init ({ frames := 1, cells := 2, slots := 11, locals := 12 } : Room) [.ref h0] [(h0, .inr (3, [.int pm, .int pk, .null, .null]))] (sw_QV G (S := Nat × Nat × (Nat → Int32) × (Nat → Int32)) (fun (u : Nat × Nat × (Nat → Int32) × (Nat → Int32)) => u.2.2.1 = f_X3_init_o1 ∧ u.2.2.2 = f_X3_init_o2) (fun u => [(h0, .inr (3, [.int 0, .int 1000, .ref u.1, .ref u.2.1])), (u.1, .inl (G.2.1.1, 6, .inl u.2.2.1)), (u.2.1, .inl (G.2.1.1, 5, .inl u.2.2.2))])) 2 11 := by
  refine sw_start (cc := cX3_init) (maxL := 1) (ret := none) (lv := [(0, .ref h0)]) (own := RX3) (nm := "<init>") (by decide +kernel) rfl rfl rfl rfl (Nat.le_of_ble_eq_true rfl) (fun C F T => ?_)
  have in3 : ∀ w ∈ u_ws RX3 TX3 4, w ∈ wsX3_init := fun w h => List.mem_cons_of_mem _ (List.mem_append_right _ (h))
  refine sw_aload_n (pc := 0) F dX3_init_0 rfl 0 rfl ?_
  refine sw_objInit (pc := 1) (rm := ({ frames := 1, cells := 2, slots := 11, locals := 12 } : Room)) F T.2.1 (List.mem_of_getElem? (i := 1) rfl) (List.mem_of_getElem? (i := 2) rfl) (List.mem_of_getElem? (i := 3) rfl) dX3_init_1 (Nat.le_of_ble_eq_true rfl) (Nat.le_of_ble_eq_true rfl) ?_
  refine sw_aload_n (pc := 4) F dX3_init_4 rfl 0 rfl ?_
  refine sw_iconst (pc := 5) (v := 0) F dX3_init_5 rfl ?_
  refine sw_put (pc := 6) (Cn := RX3) (T := TX3) (N := 4) (ci := 3) (ty0 := tyX3) (ws' := [(h0, .inr (3, [.int 0, .int pk, .null, .null]))]) F in3 tyX3_ok nmX3 0 rfl rfl 0 (by decide) rfl (List.mem_of_getElem? (i := 4) rfl) rfl rfl rfl (Nat.le_of_ble_eq_true rfl) dX3_init_6 rfl ?_
  refine sw_aload_n (pc := 9) F dX3_init_9 rfl 0 rfl ?_
  refine sw_sipush (pc := 10) (v := 1000) F dX3_init_10 rfl ?_
  refine sw_put (pc := 13) (Cn := RX3) (T := TX3) (N := 4) (ci := 3) (ty0 := tyX3) (ws' := [(h0, .inr (3, [.int 0, .int 1000, .null, .null]))]) F in3 tyX3_ok nmX3 0 rfl rfl 1 (by decide) rfl (List.mem_of_getElem? (i := 5) rfl) rfl rfl rfl (Nat.le_of_ble_eq_true rfl) dX3_init_13 rfl ?_
  refine sw_aload_n (pc := 16) F dX3_init_16 rfl 0 rfl ?_
  refine sw_bipush (pc := 17) (v := 6) F dX3_init_17 rfl ?_
  refine sw_newI (pc := 19) (N := 6) (rm := ({ frames := 1, cells := 2, slots := 11, locals := 12 } : Room)) (k' := 1) (n' := 6) F T.2.1 (List.mem_of_getElem? (i := 6) rfl) (by decide) rfl (by decide) rfl rfl (Nat.le_of_ble_eq_true rfl) (Nat.le_of_ble_eq_true rfl) dX3_init_19 (fun q_1 => ?_)
  refine sw_eq (ws' := [(h0, .inr (3, [.int 0, .int 1000, .null, .null])), (q_1, .inl (G.2.1.1, 6, .inl (fun _ => 0)))]) rfl rfl rfl ?_
  refine sw_dup (pc := 21) F dX3_init_21 rfl ?_
  refine sw_iconst (pc := 22) (v := 0) F dX3_init_22 rfl ?_
  refine sw_sipush (pc := 23) (v := 10000) F dX3_init_23 rfl ?_
  obtain ⟨f_2, ef_2⟩ : ∃ y : Nat → Int32, y = upd (fun _ => 0) 0 10000 := ⟨_, rfl⟩
  refine sw_iast (pc := 26) (ws' := [(h0, .inr (3, [.int 0, .int 1000, .null, .null])), (q_1, .inl (G.2.1.1, 6, .inl f_2))]) F 1 rfl (sw_in rfl) dX3_init_26 (by rw [ef_2]; rfl) ?_
  refine sw_dup (pc := 27) F dX3_init_27 rfl ?_
  refine sw_iconst (pc := 28) (v := 1) F dX3_init_28 rfl ?_
  refine sw_sipush (pc := 29) (v := 10000) F dX3_init_29 rfl ?_
  obtain ⟨f_3, ef_3⟩ : ∃ y : Nat → Int32, y = upd f_2 1 10000 := ⟨_, rfl⟩
  refine sw_iast (pc := 32) (ws' := [(h0, .inr (3, [.int 0, .int 1000, .null, .null])), (q_1, .inl (G.2.1.1, 6, .inl f_3))]) F 1 rfl (sw_in rfl) dX3_init_32 (by rw [ef_3]; rfl) ?_
  refine sw_dup (pc := 33) F dX3_init_33 rfl ?_
  refine sw_iconst (pc := 34) (v := 2) F dX3_init_34 rfl ?_
  refine sw_sipush (pc := 35) (v := 10000) F dX3_init_35 rfl ?_
  obtain ⟨f_4, ef_4⟩ : ∃ y : Nat → Int32, y = upd f_3 2 10000 := ⟨_, rfl⟩
  refine sw_iast (pc := 38) (ws' := [(h0, .inr (3, [.int 0, .int 1000, .null, .null])), (q_1, .inl (G.2.1.1, 6, .inl f_4))]) F 1 rfl (sw_in rfl) dX3_init_38 (by rw [ef_4]; rfl) ?_
  refine sw_dup (pc := 39) F dX3_init_39 rfl ?_
  refine sw_iconst (pc := 40) (v := 3) F dX3_init_40 rfl ?_
  refine sw_sipush (pc := 41) (v := 10000) F dX3_init_41 rfl ?_
  obtain ⟨f_5, ef_5⟩ : ∃ y : Nat → Int32, y = upd f_4 3 10000 := ⟨_, rfl⟩
  refine sw_iast (pc := 44) (ws' := [(h0, .inr (3, [.int 0, .int 1000, .null, .null])), (q_1, .inl (G.2.1.1, 6, .inl f_5))]) F 1 rfl (sw_in rfl) dX3_init_44 (by rw [ef_5]; rfl) ?_
  refine sw_dup (pc := 45) F dX3_init_45 rfl ?_
  refine sw_iconst (pc := 46) (v := 4) F dX3_init_46 rfl ?_
  refine sw_sipush (pc := 47) (v := 10000) F dX3_init_47 rfl ?_
  obtain ⟨f_6, ef_6⟩ : ∃ y : Nat → Int32, y = upd f_5 4 10000 := ⟨_, rfl⟩
  refine sw_iast (pc := 50) (ws' := [(h0, .inr (3, [.int 0, .int 1000, .null, .null])), (q_1, .inl (G.2.1.1, 6, .inl f_6))]) F 1 rfl (sw_in rfl) dX3_init_50 (by rw [ef_6]; rfl) ?_
  refine sw_dup (pc := 51) F dX3_init_51 rfl ?_
  refine sw_iconst (pc := 52) (v := 5) F dX3_init_52 rfl ?_
  refine sw_sipush (pc := 53) (v := 10000) F dX3_init_53 rfl ?_
  obtain ⟨f_7, ef_7⟩ : ∃ y : Nat → Int32, y = upd f_6 5 10000 := ⟨_, rfl⟩
  refine sw_iast (pc := 56) (ws' := [(h0, .inr (3, [.int 0, .int 1000, .null, .null])), (q_1, .inl (G.2.1.1, 6, .inl f_7))]) F 1 rfl (sw_in rfl) dX3_init_56 (by rw [ef_7]; rfl) ?_
  refine sw_putF (pc := 57) (Cn := RX3) (T := TX3) (N := 4) (ci := 3) (ty0 := tyX3) (ws' := [(h0, .inr (3, [.int 0, .int 1000, .ref q_1, .null])), (q_1, .inl (G.2.1.1, 6, .inl f_7))]) F (T.2.2.2.2.1) in3 tyX3_ok nmX3 0 rfl rfl 2 (by decide) rfl (List.mem_of_getElem? (i := 7) rfl) rfl rfl rfl (Nat.le_of_ble_eq_true rfl) dX3_init_57 rfl ?_
  refine sw_aload_n (pc := 60) F dX3_init_60 rfl 0 rfl ?_
  refine sw_iconst (pc := 61) (v := 5) F dX3_init_61 rfl ?_
  refine sw_newI (pc := 62) (N := 5) (rm := ({ frames := 1, cells := 2, slots := 11, locals := 12 } : Room)) (k' := 2) (n' := 11) F T.2.1 (List.mem_of_getElem? (i := 6) rfl) (by decide) rfl (by decide) rfl rfl (Nat.le_of_ble_eq_true rfl) (Nat.le_of_ble_eq_true rfl) dX3_init_62 (fun q_8 => ?_)
  refine sw_eq (ws' := [(h0, .inr (3, [.int 0, .int 1000, .ref q_1, .null])), (q_1, .inl (G.2.1.1, 6, .inl f_7)), (q_8, .inl (G.2.1.1, 5, .inl (fun _ => 0)))]) rfl rfl rfl ?_
  refine sw_dup (pc := 64) F dX3_init_64 rfl ?_
  refine sw_iconst (pc := 65) (v := 0) F dX3_init_65 rfl ?_
  refine sw_sipush (pc := 66) (v := 10000) F dX3_init_66 rfl ?_
  obtain ⟨f_9, ef_9⟩ : ∃ y : Nat → Int32, y = upd (fun _ => 0) 0 10000 := ⟨_, rfl⟩
  refine sw_iast (pc := 69) (ws' := [(h0, .inr (3, [.int 0, .int 1000, .ref q_1, .null])), (q_1, .inl (G.2.1.1, 6, .inl f_7)), (q_8, .inl (G.2.1.1, 5, .inl f_9))]) F 2 rfl (sw_in rfl) dX3_init_69 (by rw [ef_9]; rfl) ?_
  refine sw_dup (pc := 70) F dX3_init_70 rfl ?_
  refine sw_iconst (pc := 71) (v := 1) F dX3_init_71 rfl ?_
  refine sw_sipush (pc := 72) (v := 10000) F dX3_init_72 rfl ?_
  obtain ⟨f_10, ef_10⟩ : ∃ y : Nat → Int32, y = upd f_9 1 10000 := ⟨_, rfl⟩
  refine sw_iast (pc := 75) (ws' := [(h0, .inr (3, [.int 0, .int 1000, .ref q_1, .null])), (q_1, .inl (G.2.1.1, 6, .inl f_7)), (q_8, .inl (G.2.1.1, 5, .inl f_10))]) F 2 rfl (sw_in rfl) dX3_init_75 (by rw [ef_10]; rfl) ?_
  refine sw_dup (pc := 76) F dX3_init_76 rfl ?_
  refine sw_iconst (pc := 77) (v := 2) F dX3_init_77 rfl ?_
  refine sw_sipush (pc := 78) (v := 10000) F dX3_init_78 rfl ?_
  obtain ⟨f_11, ef_11⟩ : ∃ y : Nat → Int32, y = upd f_10 2 10000 := ⟨_, rfl⟩
  refine sw_iast (pc := 81) (ws' := [(h0, .inr (3, [.int 0, .int 1000, .ref q_1, .null])), (q_1, .inl (G.2.1.1, 6, .inl f_7)), (q_8, .inl (G.2.1.1, 5, .inl f_11))]) F 2 rfl (sw_in rfl) dX3_init_81 (by rw [ef_11]; rfl) ?_
  refine sw_dup (pc := 82) F dX3_init_82 rfl ?_
  refine sw_iconst (pc := 83) (v := 3) F dX3_init_83 rfl ?_
  refine sw_sipush (pc := 84) (v := 10000) F dX3_init_84 rfl ?_
  obtain ⟨f_12, ef_12⟩ : ∃ y : Nat → Int32, y = upd f_11 3 10000 := ⟨_, rfl⟩
  refine sw_iast (pc := 87) (ws' := [(h0, .inr (3, [.int 0, .int 1000, .ref q_1, .null])), (q_1, .inl (G.2.1.1, 6, .inl f_7)), (q_8, .inl (G.2.1.1, 5, .inl f_12))]) F 2 rfl (sw_in rfl) dX3_init_87 (by rw [ef_12]; rfl) ?_
  refine sw_dup (pc := 88) F dX3_init_88 rfl ?_
  refine sw_iconst (pc := 89) (v := 4) F dX3_init_89 rfl ?_
  refine sw_sipush (pc := 90) (v := 10000) F dX3_init_90 rfl ?_
  obtain ⟨f_13, ef_13⟩ : ∃ y : Nat → Int32, y = upd f_12 4 10000 := ⟨_, rfl⟩
  refine sw_iast (pc := 93) (ws' := [(h0, .inr (3, [.int 0, .int 1000, .ref q_1, .null])), (q_1, .inl (G.2.1.1, 6, .inl f_7)), (q_8, .inl (G.2.1.1, 5, .inl f_13))]) F 2 rfl (sw_in rfl) dX3_init_93 (by rw [ef_13]; rfl) ?_
  refine sw_putF (pc := 94) (Cn := RX3) (T := TX3) (N := 4) (ci := 3) (ty0 := tyX3) (ws' := [(h0, .inr (3, [.int 0, .int 1000, .ref q_1, .ref q_8])), (q_1, .inl (G.2.1.1, 6, .inl f_7)), (q_8, .inl (G.2.1.1, 5, .inl f_13))]) F (T.2.2.2.2.1) in3 tyX3_ok nmX3 0 rfl rfl 3 (by decide) rfl (List.mem_of_getElem? (i := 8) rfl) rfl rfl rfl (Nat.le_of_ble_eq_true rfl) dX3_init_94 rfl ?_
  subst ef_13
  subst ef_12
  subst ef_11
  subst ef_10
  subst ef_9
  subst ef_7
  subst ef_6
  subst ef_5
  subst ef_4
  subst ef_3
  subst ef_2
  exact sw_vret (pc := 97) F T (q_1, q_8, (upd (upd (upd (upd (upd (upd (fun _ => 0) 0 10000) 1 10000) 2 10000) 3 10000) 4 10000) 5 10000), (upd (upd (upd (upd (upd (fun _ => 0) 0 10000) 1 10000) 2 10000) 3 10000) 4 10000)) ⟨rfl, rfl⟩ rfl dX3_init_97
def f_X3_copyFrom_o1 (pd : Nat → Int32) (zd : Nat → Int32) : Nat → Int32 := (va_cpy zd pd 0 0 6)
def f_X3_copyFrom_o2 (pf : Nat → Int32) (zf : Nat → Int32) : Nat → Int32 := (va_cpy zf pf 0 0 5)
set_option maxHeartbeats 4000000 in
set_option maxRecDepth 100000 in
theorem k_X3_copyFrom (l : Launch) (G : sw_E) (h0 : Nat) (d0 : Nat) (f0 : Nat) (g0 : Nat) (d1 : Nat) (f1 : Nat) (pm : Int32) (pk : Int32) (pd : Nat → Int32) (pf : Nat → Int32) (zm : Int32) (zk : Int32) (zd : Nat → Int32) (zf : Nat → Int32)  : sw_M l G yX3_copyFrom wsX3_copyFrom ({ frames := 1, cells := 0, slots := 0, locals := 40 } : Room) [.ref h0, .ref g0] [(h0, .inr (3, [.int pm, .int pk, .ref d0, .ref f0])), (d0, .inl (G.2.1.1, 6, .inl pd)), (f0, .inl (G.2.1.1, 5, .inl pf)), (g0, .inr (3, [.int zm, .int zk, .ref d1, .ref f1])), (d1, .inl (G.2.1.1, 6, .inl zd)), (f1, .inl (G.2.1.1, 5, .inl zf))] (sw_QV G (S := (Nat → Int32) × (Nat → Int32)) (fun (u : (Nat → Int32) × (Nat → Int32)) => u.1 = f_X3_copyFrom_o1 pd zd ∧ u.2 = f_X3_copyFrom_o2 pf zf) (fun u => [(h0, .inr (3, [.int zm, .int zk, .ref d0, .ref f0])), (d0, .inl (G.2.1.1, 6, .inl u.1)), (f0, .inl (G.2.1.1, 5, .inl u.2)), (g0, .inr (3, [.int zm, .int zk, .ref d1, .ref f1])), (d1, .inl (G.2.1.1, 6, .inl zd)), (f1, .inl (G.2.1.1, 5, .inl zf))])) 0 0 := by
  refine sw_start (cc := cX3_copyFrom) (maxL := 2) (ret := none) (lv := [(0, .ref h0), (1, .ref g0)]) (own := RX3) (nm := "copyFrom") (by decide +kernel) rfl rfl rfl rfl (Nat.le_of_ble_eq_true rfl) (fun C F T => ?_)
  have in3 : ∀ w ∈ u_ws RX3 TX3 4, w ∈ wsX3_copyFrom := fun w h => List.mem_cons_of_mem _ (List.mem_append_right _ (h))
  refine sw_aload_n (pc := 0) F dX3_copyFrom_0 rfl 0 rfl ?_
  refine sw_aload_n (pc := 1) F dX3_copyFrom_1 rfl 1 rfl ?_
  refine sw_get (pc := 2) (Cn := RX3) (T := TX3) (N := 4) (ci := 3) (v := .int zm) F in3 3 rfl rfl 0 (by decide) rfl (List.mem_of_getElem? (i := 1) rfl) rfl dX3_copyFrom_2 ?_
  refine sw_put (pc := 5) (Cn := RX3) (T := TX3) (N := 4) (ci := 3) (ty0 := tyX3) (ws' := [(h0, .inr (3, [.int zm, .int pk, .ref d0, .ref f0])), (d0, .inl (G.2.1.1, 6, .inl pd)), (f0, .inl (G.2.1.1, 5, .inl pf)), (g0, .inr (3, [.int zm, .int zk, .ref d1, .ref f1])), (d1, .inl (G.2.1.1, 6, .inl zd)), (f1, .inl (G.2.1.1, 5, .inl zf))]) F in3 tyX3_ok nmX3 0 rfl rfl 0 (by decide) rfl (List.mem_of_getElem? (i := 1) rfl) rfl rfl rfl (Nat.le_of_ble_eq_true rfl) dX3_copyFrom_5 rfl ?_
  refine sw_aload_n (pc := 8) F dX3_copyFrom_8 rfl 0 rfl ?_
  refine sw_aload_n (pc := 9) F dX3_copyFrom_9 rfl 1 rfl ?_
  refine sw_get (pc := 10) (Cn := RX3) (T := TX3) (N := 4) (ci := 3) (v := .int zk) F in3 3 rfl rfl 1 (by decide) rfl (List.mem_of_getElem? (i := 2) rfl) rfl dX3_copyFrom_10 ?_
  refine sw_put (pc := 13) (Cn := RX3) (T := TX3) (N := 4) (ci := 3) (ty0 := tyX3) (ws' := [(h0, .inr (3, [.int zm, .int zk, .ref d0, .ref f0])), (d0, .inl (G.2.1.1, 6, .inl pd)), (f0, .inl (G.2.1.1, 5, .inl pf)), (g0, .inr (3, [.int zm, .int zk, .ref d1, .ref f1])), (d1, .inl (G.2.1.1, 6, .inl zd)), (f1, .inl (G.2.1.1, 5, .inl zf))]) F in3 tyX3_ok nmX3 0 rfl rfl 1 (by decide) rfl (List.mem_of_getElem? (i := 2) rfl) rfl rfl rfl (Nat.le_of_ble_eq_true rfl) dX3_copyFrom_13 rfl ?_
  refine sw_aload_n (pc := 16) F dX3_copyFrom_16 rfl 1 rfl ?_
  refine sw_get (pc := 17) (Cn := RX3) (T := TX3) (N := 4) (ci := 3) (v := .ref d1) F in3 3 rfl rfl 2 (by decide) rfl (List.mem_of_getElem? (i := 3) rfl) rfl dX3_copyFrom_17 ?_
  refine sw_iconst (pc := 20) (v := 0) F dX3_copyFrom_20 rfl ?_
  refine sw_aload_n (pc := 21) F dX3_copyFrom_21 rfl 0 rfl ?_
  refine sw_get (pc := 22) (Cn := RX3) (T := TX3) (N := 4) (ci := 3) (v := .ref d0) F in3 0 rfl rfl 2 (by decide) rfl (List.mem_of_getElem? (i := 3) rfl) rfl dX3_copyFrom_22 ?_
  refine sw_iconst (pc := 25) (v := 0) F dX3_copyFrom_25 rfl ?_
  refine sw_bipush (pc := 26) (v := 6) F dX3_copyFrom_26 rfl ?_
  obtain ⟨f_1, ef_1⟩ : ∃ y : Nat → Int32, y = va_cpy zd pd 0 0 6 := ⟨_, rfl⟩
  refine sw_cpyI (pc := 28) (rm := ({ frames := 1, cells := 0, slots := 0, locals := 40 } : Room)) (ws' := [(h0, .inr (3, [.int zm, .int zk, .ref d0, .ref f0])), (d0, .inl (G.2.1.1, 6, .inl f_1)), (f0, .inl (G.2.1.1, 5, .inl pf)), (g0, .inr (3, [.int zm, .int zk, .ref d1, .ref f1])), (d1, .inl (G.2.1.1, 6, .inl zd)), (f1, .inl (G.2.1.1, 5, .inl zf))]) F T.2.1 (List.mem_of_getElem? (i := 4) rfl) (List.mem_of_getElem? (i := 5) rfl) (List.mem_of_getElem? (i := 6) rfl) (List.mem_of_getElem? (i := 7) rfl) 4 1 rfl rfl (by decide) (by decide) (by decide) (by decide) (by decide) (Nat.le_of_ble_eq_true rfl) (Nat.le_of_ble_eq_true rfl) dX3_copyFrom_28 (by rw [ef_1]; rfl) ?_
  refine sw_aload_n (pc := 31) F dX3_copyFrom_31 rfl 1 rfl ?_
  refine sw_get (pc := 32) (Cn := RX3) (T := TX3) (N := 4) (ci := 3) (v := .ref f1) F in3 3 rfl rfl 3 (by decide) rfl (List.mem_of_getElem? (i := 8) rfl) rfl dX3_copyFrom_32 ?_
  refine sw_iconst (pc := 35) (v := 0) F dX3_copyFrom_35 rfl ?_
  refine sw_aload_n (pc := 36) F dX3_copyFrom_36 rfl 0 rfl ?_
  refine sw_get (pc := 37) (Cn := RX3) (T := TX3) (N := 4) (ci := 3) (v := .ref f0) F in3 0 rfl rfl 3 (by decide) rfl (List.mem_of_getElem? (i := 8) rfl) rfl dX3_copyFrom_37 ?_
  refine sw_iconst (pc := 40) (v := 0) F dX3_copyFrom_40 rfl ?_
  refine sw_iconst (pc := 41) (v := 5) F dX3_copyFrom_41 rfl ?_
  obtain ⟨f_2, ef_2⟩ : ∃ y : Nat → Int32, y = va_cpy zf pf 0 0 5 := ⟨_, rfl⟩
  refine sw_cpyI (pc := 42) (rm := ({ frames := 1, cells := 0, slots := 0, locals := 40 } : Room)) (ws' := [(h0, .inr (3, [.int zm, .int zk, .ref d0, .ref f0])), (d0, .inl (G.2.1.1, 6, .inl f_1)), (f0, .inl (G.2.1.1, 5, .inl f_2)), (g0, .inr (3, [.int zm, .int zk, .ref d1, .ref f1])), (d1, .inl (G.2.1.1, 6, .inl zd)), (f1, .inl (G.2.1.1, 5, .inl zf))]) F T.2.1 (List.mem_of_getElem? (i := 4) rfl) (List.mem_of_getElem? (i := 5) rfl) (List.mem_of_getElem? (i := 6) rfl) (List.mem_of_getElem? (i := 7) rfl) 5 2 rfl rfl (by decide) (by decide) (by decide) (by decide) (by decide) (Nat.le_of_ble_eq_true rfl) (Nat.le_of_ble_eq_true rfl) dX3_copyFrom_42 (by rw [ef_2]; rfl) ?_
  subst ef_2
  subst ef_1
  exact sw_vret (pc := 45) F T ((va_cpy zd pd 0 0 6), (va_cpy zf pf 0 0 5)) ⟨rfl, rfl⟩ rfl dX3_copyFrom_45
def f_X3_interpolated_D_r (p : Nat → Int32) (a : Int64) : Int64 := if 0 ≤ a then (if 200 ≤ a then (if 400 ≤ a then (if 600 ≤ a then (if 800 ≤ a then ((p 5).toInt64) else (((p 4).toInt64 + (f_J9_floorDiv_f86c9_r (((p 5) - (p 4)).toInt64 * (if (a - 600) < (0 : Int64) then (0 : Int64) else (a - 600))) 200)))) else (((p 3).toInt64 + (f_J9_floorDiv_f86c9_r (((p 4) - (p 3)).toInt64 * (if (a - 400) < (0 : Int64) then (0 : Int64) else (a - 400))) 200)))) else (((p 2).toInt64 + (f_J9_floorDiv_f86c9_r (((p 3) - (p 2)).toInt64 * (if (a - 200) < (0 : Int64) then (0 : Int64) else (a - 200))) 200)))) else (((p 1).toInt64 + (f_J9_floorDiv_f86c9_r (((p 2) - (p 1)).toInt64 * (if (a - 0) < (0 : Int64) then (0 : Int64) else (a - 0))) 200)))) else (((p 0).toInt64 + (f_J9_floorDiv_f86c9_r (((p 1) - (p 0)).toInt64 * (if (a - (-200)) < (0 : Int64) then (0 : Int64) else (a - (-200)))) 200)))
set_option maxHeartbeats 4000000 in
set_option maxRecDepth 100000 in
theorem k_X3_interpolated_D (l : Launch) (G : sw_E) (d0 : Nat) (p : Nat → Int32) (a : Int64)  : sw_M l G yX3_interpolated wsX3_interpolated ({ frames := 1, cells := 0, slots := 0, locals := 25 } : Room) [.ref G.2.2.1, .ref d0, .long a] [(d0, .inl (G.2.1.1, 6, .inl p))] (sw_QL G (S := Unit) (fun (r : Int64) (_ : Unit) => r = f_X3_interpolated_D_r p a) (fun _ => [(d0, .inl (G.2.1.1, 6, .inl p))])) 0 0 := by
  refine sw_start (cc := cX3_interpolated) (maxL := 11) (ret := some .long) (lv := [(0, .ref G.2.2.1), (1, .ref d0), (2, .long a)]) (own := RX3) (nm := "interpolated") (by decide +kernel) rfl rfl rfl rfl (Nat.le_of_ble_eq_true rfl) (fun C F T => ?_)
  refine sw_lconst (pc := 0) (v := 0) F dX3_interpolated_0 rfl ?_
  refine sw_lstore (pc := 1) (lv' := [(4, .long 0), (0, .ref G.2.2.1), (1, .ref d0), (2, .long a)]) F T.1 dX3_interpolated_1 (by decide) rfl ?_
  refine sw_iconst (pc := 3) (v := 0) F dX3_interpolated_3 rfl ?_
  refine sw_istore (pc := 4) (lv' := [(6, .int 0), (4, .long 0), (0, .ref G.2.2.1), (1, .ref d0), (2, .long a)]) F T.1 dX3_interpolated_4 (by decide) rfl ?_
  refine sw_iload (pc := 6) F dX3_interpolated_6 0 rfl ?_
  refine sw_aload_n (pc := 8) F dX3_interpolated_8 rfl 2 rfl ?_
  refine sw_tblen (pc := 9) (v := 6) F F.2.2.2.2.2.2.2.2.1.2.2.1 rfl dX3_interpolated_9 ?_
  refine sw_icmp_ge (pc := 10) (tgt := 119) F dX3_interpolated_10 (by decide) (fun c => absurd c (by decide)) (fun _ => ?_)
  refine sw_iload (pc := 13) F dX3_interpolated_13 0 rfl ?_
  refine sw_aload_n (pc := 15) F dX3_interpolated_15 rfl 3 rfl ?_
  refine sw_alenI (pc := 16) (v := 6) F 0 rfl rfl dX3_interpolated_16 ?_
  refine sw_icmp_ge (pc := 17) (tgt := 119) F dX3_interpolated_17 (by decide) (fun c => absurd c (by decide)) (fun _ => ?_)
  refine sw_iload (pc := 20) F dX3_interpolated_20 0 rfl ?_
  refine sw_if_le (pc := 22) (tgt := 106) F dX3_interpolated_22 (by decide) (fun _ => ?_) (fun c => absurd c (by decide))
  refine sw_aload_n (pc := 106) F dX3_interpolated_106 rfl 3 rfl ?_
  refine sw_iload (pc := 107) F dX3_interpolated_107 0 rfl ?_
  refine sw_iald (pc := 109) F 0 rfl (sw_in rfl) dX3_interpolated_109 ?_
  refine sw_nami (e := p 0) rfl (fun x_1 ex_1 => ?_)
  refine sw_i2l (pc := 110) F dX3_interpolated_110 rfl ?_
  refine sw_lstore (pc := 111) (lv' := [(4, .long x_1.toInt64), (6, .int 0), (0, .ref G.2.2.1), (1, .ref d0), (2, .long a)]) F T.1 dX3_interpolated_111 (by decide) rfl ?_
  refine sw_iinc (pc := 113) (v := 1) (lv' := [(6, .int 1), (4, .long x_1.toInt64), (0, .ref G.2.2.1), (1, .ref d0), (2, .long a)]) F T.1 dX3_interpolated_113 (q := 1) rfl rfl (by decide) rfl ?_
  refine sw_goto (pc := 116) (tgt := 6) F dX3_interpolated_116 (by decide) ?_
  refine sw_iload (pc := 6) F dX3_interpolated_6 0 rfl ?_
  refine sw_aload_n (pc := 8) F dX3_interpolated_8 rfl 2 rfl ?_
  refine sw_tblen (pc := 9) (v := 6) F F.2.2.2.2.2.2.2.2.1.2.2.1 rfl dX3_interpolated_9 ?_
  refine sw_icmp_ge (pc := 10) (tgt := 119) F dX3_interpolated_10 (by decide) (fun c => absurd c (by decide)) (fun _ => ?_)
  refine sw_iload (pc := 13) F dX3_interpolated_13 0 rfl ?_
  refine sw_aload_n (pc := 15) F dX3_interpolated_15 rfl 3 rfl ?_
  refine sw_alenI (pc := 16) (v := 6) F 0 rfl rfl dX3_interpolated_16 ?_
  refine sw_icmp_ge (pc := 17) (tgt := 119) F dX3_interpolated_17 (by decide) (fun c => absurd c (by decide)) (fun _ => ?_)
  refine sw_iload (pc := 20) F dX3_interpolated_20 0 rfl ?_
  refine sw_if_le (pc := 22) (tgt := 106) F dX3_interpolated_22 (by decide) (fun c => absurd c (by decide)) (fun _ => ?_)
  refine sw_lload_n (pc := 25) F dX3_interpolated_25 rfl 4 rfl ?_
  refine sw_aload_n (pc := 26) F dX3_interpolated_26 rfl 2 rfl ?_
  refine sw_iload (pc := 27) F dX3_interpolated_27 0 rfl ?_
  refine sw_tbld (pc := 29) F F.2.2.2.2.2.2.2.2.1.2.2.1 (sw_in rfl) (v := .int 0) rfl dX3_interpolated_29 ?_
  refine sw_i2l (pc := 30) (v := 0) F dX3_interpolated_30 rfl ?_
  refine sw_lcmp_ge (pc := 31) (tgt := 106) F dX3_interpolated_31 dX3_interpolated_32 (by decide) (fun c_2 => ?_) (fun c_2 => ?_)
  · skip
    refine sw_aload_n (pc := 106) F dX3_interpolated_106 rfl 3 rfl ?_
    refine sw_iload (pc := 107) F dX3_interpolated_107 0 rfl ?_
    refine sw_iald (pc := 109) F 0 rfl (sw_in rfl) dX3_interpolated_109 ?_
    refine sw_nami (e := p 1) rfl (fun x_3 ex_3 => ?_)
    refine sw_i2l (pc := 110) F dX3_interpolated_110 rfl ?_
    refine sw_lstore (pc := 111) (lv' := [(4, .long x_3.toInt64), (6, .int 1), (0, .ref G.2.2.1), (1, .ref d0), (2, .long a)]) F T.1 dX3_interpolated_111 (by decide) rfl ?_
    refine sw_iinc (pc := 113) (v := 2) (lv' := [(6, .int 2), (4, .long x_3.toInt64), (0, .ref G.2.2.1), (1, .ref d0), (2, .long a)]) F T.1 dX3_interpolated_113 (q := 1) rfl rfl (by decide) rfl ?_
    refine sw_goto (pc := 116) (tgt := 6) F dX3_interpolated_116 (by decide) ?_
    refine sw_iload (pc := 6) F dX3_interpolated_6 0 rfl ?_
    refine sw_aload_n (pc := 8) F dX3_interpolated_8 rfl 2 rfl ?_
    refine sw_tblen (pc := 9) (v := 6) F F.2.2.2.2.2.2.2.2.1.2.2.1 rfl dX3_interpolated_9 ?_
    refine sw_icmp_ge (pc := 10) (tgt := 119) F dX3_interpolated_10 (by decide) (fun c => absurd c (by decide)) (fun _ => ?_)
    refine sw_iload (pc := 13) F dX3_interpolated_13 0 rfl ?_
    refine sw_aload_n (pc := 15) F dX3_interpolated_15 rfl 3 rfl ?_
    refine sw_alenI (pc := 16) (v := 6) F 0 rfl rfl dX3_interpolated_16 ?_
    refine sw_icmp_ge (pc := 17) (tgt := 119) F dX3_interpolated_17 (by decide) (fun c => absurd c (by decide)) (fun _ => ?_)
    refine sw_iload (pc := 20) F dX3_interpolated_20 0 rfl ?_
    refine sw_if_le (pc := 22) (tgt := 106) F dX3_interpolated_22 (by decide) (fun c => absurd c (by decide)) (fun _ => ?_)
    refine sw_lload_n (pc := 25) F dX3_interpolated_25 rfl 4 rfl ?_
    refine sw_aload_n (pc := 26) F dX3_interpolated_26 rfl 2 rfl ?_
    refine sw_iload (pc := 27) F dX3_interpolated_27 0 rfl ?_
    refine sw_tbld (pc := 29) F F.2.2.2.2.2.2.2.2.1.2.2.1 (sw_in rfl) (v := .int 200) rfl dX3_interpolated_29 ?_
    refine sw_i2l (pc := 30) (v := 200) F dX3_interpolated_30 rfl ?_
    refine sw_lcmp_ge (pc := 31) (tgt := 106) F dX3_interpolated_31 dX3_interpolated_32 (by decide) (fun c_4 => ?_) (fun c_4 => ?_)
    · skip
      refine sw_aload_n (pc := 106) F dX3_interpolated_106 rfl 3 rfl ?_
      refine sw_iload (pc := 107) F dX3_interpolated_107 0 rfl ?_
      refine sw_iald (pc := 109) F 0 rfl (sw_in rfl) dX3_interpolated_109 ?_
      refine sw_nami (e := p 2) rfl (fun x_5 ex_5 => ?_)
      refine sw_i2l (pc := 110) F dX3_interpolated_110 rfl ?_
      refine sw_lstore (pc := 111) (lv' := [(4, .long x_5.toInt64), (6, .int 2), (0, .ref G.2.2.1), (1, .ref d0), (2, .long a)]) F T.1 dX3_interpolated_111 (by decide) rfl ?_
      refine sw_iinc (pc := 113) (v := 3) (lv' := [(6, .int 3), (4, .long x_5.toInt64), (0, .ref G.2.2.1), (1, .ref d0), (2, .long a)]) F T.1 dX3_interpolated_113 (q := 1) rfl rfl (by decide) rfl ?_
      refine sw_goto (pc := 116) (tgt := 6) F dX3_interpolated_116 (by decide) ?_
      refine sw_iload (pc := 6) F dX3_interpolated_6 0 rfl ?_
      refine sw_aload_n (pc := 8) F dX3_interpolated_8 rfl 2 rfl ?_
      refine sw_tblen (pc := 9) (v := 6) F F.2.2.2.2.2.2.2.2.1.2.2.1 rfl dX3_interpolated_9 ?_
      refine sw_icmp_ge (pc := 10) (tgt := 119) F dX3_interpolated_10 (by decide) (fun c => absurd c (by decide)) (fun _ => ?_)
      refine sw_iload (pc := 13) F dX3_interpolated_13 0 rfl ?_
      refine sw_aload_n (pc := 15) F dX3_interpolated_15 rfl 3 rfl ?_
      refine sw_alenI (pc := 16) (v := 6) F 0 rfl rfl dX3_interpolated_16 ?_
      refine sw_icmp_ge (pc := 17) (tgt := 119) F dX3_interpolated_17 (by decide) (fun c => absurd c (by decide)) (fun _ => ?_)
      refine sw_iload (pc := 20) F dX3_interpolated_20 0 rfl ?_
      refine sw_if_le (pc := 22) (tgt := 106) F dX3_interpolated_22 (by decide) (fun c => absurd c (by decide)) (fun _ => ?_)
      refine sw_lload_n (pc := 25) F dX3_interpolated_25 rfl 4 rfl ?_
      refine sw_aload_n (pc := 26) F dX3_interpolated_26 rfl 2 rfl ?_
      refine sw_iload (pc := 27) F dX3_interpolated_27 0 rfl ?_
      refine sw_tbld (pc := 29) F F.2.2.2.2.2.2.2.2.1.2.2.1 (sw_in rfl) (v := .int 400) rfl dX3_interpolated_29 ?_
      refine sw_i2l (pc := 30) (v := 400) F dX3_interpolated_30 rfl ?_
      refine sw_lcmp_ge (pc := 31) (tgt := 106) F dX3_interpolated_31 dX3_interpolated_32 (by decide) (fun c_6 => ?_) (fun c_6 => ?_)
      · skip
        refine sw_aload_n (pc := 106) F dX3_interpolated_106 rfl 3 rfl ?_
        refine sw_iload (pc := 107) F dX3_interpolated_107 0 rfl ?_
        refine sw_iald (pc := 109) F 0 rfl (sw_in rfl) dX3_interpolated_109 ?_
        refine sw_nami (e := p 3) rfl (fun x_7 ex_7 => ?_)
        refine sw_i2l (pc := 110) F dX3_interpolated_110 rfl ?_
        refine sw_lstore (pc := 111) (lv' := [(4, .long x_7.toInt64), (6, .int 3), (0, .ref G.2.2.1), (1, .ref d0), (2, .long a)]) F T.1 dX3_interpolated_111 (by decide) rfl ?_
        refine sw_iinc (pc := 113) (v := 4) (lv' := [(6, .int 4), (4, .long x_7.toInt64), (0, .ref G.2.2.1), (1, .ref d0), (2, .long a)]) F T.1 dX3_interpolated_113 (q := 1) rfl rfl (by decide) rfl ?_
        refine sw_goto (pc := 116) (tgt := 6) F dX3_interpolated_116 (by decide) ?_
        refine sw_iload (pc := 6) F dX3_interpolated_6 0 rfl ?_
        refine sw_aload_n (pc := 8) F dX3_interpolated_8 rfl 2 rfl ?_
        refine sw_tblen (pc := 9) (v := 6) F F.2.2.2.2.2.2.2.2.1.2.2.1 rfl dX3_interpolated_9 ?_
        refine sw_icmp_ge (pc := 10) (tgt := 119) F dX3_interpolated_10 (by decide) (fun c => absurd c (by decide)) (fun _ => ?_)
        refine sw_iload (pc := 13) F dX3_interpolated_13 0 rfl ?_
        refine sw_aload_n (pc := 15) F dX3_interpolated_15 rfl 3 rfl ?_
        refine sw_alenI (pc := 16) (v := 6) F 0 rfl rfl dX3_interpolated_16 ?_
        refine sw_icmp_ge (pc := 17) (tgt := 119) F dX3_interpolated_17 (by decide) (fun c => absurd c (by decide)) (fun _ => ?_)
        refine sw_iload (pc := 20) F dX3_interpolated_20 0 rfl ?_
        refine sw_if_le (pc := 22) (tgt := 106) F dX3_interpolated_22 (by decide) (fun c => absurd c (by decide)) (fun _ => ?_)
        refine sw_lload_n (pc := 25) F dX3_interpolated_25 rfl 4 rfl ?_
        refine sw_aload_n (pc := 26) F dX3_interpolated_26 rfl 2 rfl ?_
        refine sw_iload (pc := 27) F dX3_interpolated_27 0 rfl ?_
        refine sw_tbld (pc := 29) F F.2.2.2.2.2.2.2.2.1.2.2.1 (sw_in rfl) (v := .int 600) rfl dX3_interpolated_29 ?_
        refine sw_i2l (pc := 30) (v := 600) F dX3_interpolated_30 rfl ?_
        refine sw_lcmp_ge (pc := 31) (tgt := 106) F dX3_interpolated_31 dX3_interpolated_32 (by decide) (fun c_8 => ?_) (fun c_8 => ?_)
        · skip
          refine sw_aload_n (pc := 106) F dX3_interpolated_106 rfl 3 rfl ?_
          refine sw_iload (pc := 107) F dX3_interpolated_107 0 rfl ?_
          refine sw_iald (pc := 109) F 0 rfl (sw_in rfl) dX3_interpolated_109 ?_
          refine sw_nami (e := p 4) rfl (fun x_9 ex_9 => ?_)
          refine sw_i2l (pc := 110) F dX3_interpolated_110 rfl ?_
          refine sw_lstore (pc := 111) (lv' := [(4, .long x_9.toInt64), (6, .int 4), (0, .ref G.2.2.1), (1, .ref d0), (2, .long a)]) F T.1 dX3_interpolated_111 (by decide) rfl ?_
          refine sw_iinc (pc := 113) (v := 5) (lv' := [(6, .int 5), (4, .long x_9.toInt64), (0, .ref G.2.2.1), (1, .ref d0), (2, .long a)]) F T.1 dX3_interpolated_113 (q := 1) rfl rfl (by decide) rfl ?_
          refine sw_goto (pc := 116) (tgt := 6) F dX3_interpolated_116 (by decide) ?_
          refine sw_iload (pc := 6) F dX3_interpolated_6 0 rfl ?_
          refine sw_aload_n (pc := 8) F dX3_interpolated_8 rfl 2 rfl ?_
          refine sw_tblen (pc := 9) (v := 6) F F.2.2.2.2.2.2.2.2.1.2.2.1 rfl dX3_interpolated_9 ?_
          refine sw_icmp_ge (pc := 10) (tgt := 119) F dX3_interpolated_10 (by decide) (fun c => absurd c (by decide)) (fun _ => ?_)
          refine sw_iload (pc := 13) F dX3_interpolated_13 0 rfl ?_
          refine sw_aload_n (pc := 15) F dX3_interpolated_15 rfl 3 rfl ?_
          refine sw_alenI (pc := 16) (v := 6) F 0 rfl rfl dX3_interpolated_16 ?_
          refine sw_icmp_ge (pc := 17) (tgt := 119) F dX3_interpolated_17 (by decide) (fun c => absurd c (by decide)) (fun _ => ?_)
          refine sw_iload (pc := 20) F dX3_interpolated_20 0 rfl ?_
          refine sw_if_le (pc := 22) (tgt := 106) F dX3_interpolated_22 (by decide) (fun c => absurd c (by decide)) (fun _ => ?_)
          refine sw_lload_n (pc := 25) F dX3_interpolated_25 rfl 4 rfl ?_
          refine sw_aload_n (pc := 26) F dX3_interpolated_26 rfl 2 rfl ?_
          refine sw_iload (pc := 27) F dX3_interpolated_27 0 rfl ?_
          refine sw_tbld (pc := 29) F F.2.2.2.2.2.2.2.2.1.2.2.1 (sw_in rfl) (v := .int 800) rfl dX3_interpolated_29 ?_
          refine sw_i2l (pc := 30) (v := 800) F dX3_interpolated_30 rfl ?_
          refine sw_lcmp_ge (pc := 31) (tgt := 106) F dX3_interpolated_31 dX3_interpolated_32 (by decide) (fun c_10 => ?_) (fun c_10 => ?_)
          · skip
            refine sw_aload_n (pc := 106) F dX3_interpolated_106 rfl 3 rfl ?_
            refine sw_iload (pc := 107) F dX3_interpolated_107 0 rfl ?_
            refine sw_iald (pc := 109) F 0 rfl (sw_in rfl) dX3_interpolated_109 ?_
            refine sw_nami (e := p 5) rfl (fun x_11 ex_11 => ?_)
            refine sw_i2l (pc := 110) F dX3_interpolated_110 rfl ?_
            refine sw_lstore (pc := 111) (lv' := [(4, .long x_11.toInt64), (6, .int 5), (0, .ref G.2.2.1), (1, .ref d0), (2, .long a)]) F T.1 dX3_interpolated_111 (by decide) rfl ?_
            refine sw_iinc (pc := 113) (v := 6) (lv' := [(6, .int 6), (4, .long x_11.toInt64), (0, .ref G.2.2.1), (1, .ref d0), (2, .long a)]) F T.1 dX3_interpolated_113 (q := 1) rfl rfl (by decide) rfl ?_
            refine sw_goto (pc := 116) (tgt := 6) F dX3_interpolated_116 (by decide) ?_
            refine sw_iload (pc := 6) F dX3_interpolated_6 0 rfl ?_
            refine sw_aload_n (pc := 8) F dX3_interpolated_8 rfl 2 rfl ?_
            refine sw_tblen (pc := 9) (v := 6) F F.2.2.2.2.2.2.2.2.1.2.2.1 rfl dX3_interpolated_9 ?_
            refine sw_icmp_ge (pc := 10) (tgt := 119) F dX3_interpolated_10 (by decide) (fun _ => ?_) (fun c => absurd c (by decide))
            refine sw_lload (pc := 119) F dX3_interpolated_119 1 rfl ?_
            subst ex_11
            subst ex_9
            subst ex_7
            subst ex_5
            subst ex_3
            subst ex_1
            exact sw_lret (pc := 121) F T () (by unfold f_X3_interpolated_D_r; rw [if_pos c_2, if_pos c_4, if_pos c_6, if_pos c_8, if_pos c_10]) rfl dX3_interpolated_121
          · skip
            refine sw_aload_n (pc := 35) F dX3_interpolated_35 rfl 2 rfl ?_
            refine sw_iload (pc := 36) F dX3_interpolated_36 0 rfl ?_
            refine sw_iconst (pc := 38) (v := 1) F dX3_interpolated_38 rfl ?_
            refine sw_isub (pc := 39) F dX3_interpolated_39 ?_
            refine sw_eqt (v := .int 4) (by rfl) ?_
            refine sw_tbld (pc := 40) F F.2.2.2.2.2.2.2.2.1.2.2.1 (sw_in rfl) (v := .int 600) rfl dX3_interpolated_40 ?_
            refine sw_aload_n (pc := 41) F dX3_interpolated_41 rfl 2 rfl ?_
            refine sw_iload (pc := 42) F dX3_interpolated_42 0 rfl ?_
            refine sw_tbld (pc := 44) F F.2.2.2.2.2.2.2.2.1.2.2.1 (sw_in rfl) (v := .int 800) rfl dX3_interpolated_44 ?_
            refine sw_icmp_ge (pc := 45) (tgt := 106) F dX3_interpolated_45 (by decide) (fun c => absurd c (by decide)) (fun _ => ?_)
            refine sw_lconst (pc := 48) (v := 0) F dX3_interpolated_48 rfl ?_
            refine sw_lload_n (pc := 49) F dX3_interpolated_49 rfl 4 rfl ?_
            refine sw_aload_n (pc := 50) F dX3_interpolated_50 rfl 2 rfl ?_
            refine sw_iload (pc := 51) F dX3_interpolated_51 0 rfl ?_
            refine sw_iconst (pc := 53) (v := 1) F dX3_interpolated_53 rfl ?_
            refine sw_isub (pc := 54) F dX3_interpolated_54 ?_
            refine sw_eqt (v := .int 4) (by rfl) ?_
            refine sw_tbld (pc := 55) F F.2.2.2.2.2.2.2.2.1.2.2.1 (sw_in rfl) (v := .int 600) rfl dX3_interpolated_55 ?_
            refine sw_i2l (pc := 56) (v := 600) F dX3_interpolated_56 rfl ?_
            refine sw_lsub (pc := 57) F dX3_interpolated_57 ?_
            refine sw_topl (fun x_12 ex_12 => ?_)
            refine sw_maxL (pc := 58) (rm := ({ frames := 1, cells := 0, slots := 0, locals := 25 } : Room)) F T.2.1 (List.mem_of_getElem? (i := 1) rfl) (List.mem_of_getElem? (i := 2) rfl) (List.mem_of_getElem? (i := 3) rfl) (List.mem_of_getElem? (i := 4) rfl) (Nat.le_of_ble_eq_true rfl) (Nat.le_of_ble_eq_true rfl) (Nat.le_of_ble_eq_true rfl) (Nat.le_of_ble_eq_true rfl) dX3_interpolated_58 ?_
            refine sw_topl (fun x_13 ex_13 => ?_)
            refine sw_lstore (pc := 61) (lv' := [(7, .long x_13), (6, .int 5), (4, .long x_9.toInt64), (0, .ref G.2.2.1), (1, .ref d0), (2, .long a)]) F T.1 dX3_interpolated_61 (by decide) rfl ?_
            refine sw_aload_n (pc := 63) F dX3_interpolated_63 rfl 4 rfl ?_
            refine sw_iload (pc := 64) F dX3_interpolated_64 1 rfl ?_
            refine sw_iald (pc := 66) F 0 rfl (sw_in rfl) dX3_interpolated_66 ?_
            refine sw_nami (e := p 5) rfl (fun x_14 ex_14 => ?_)
            refine sw_aload_n (pc := 67) F dX3_interpolated_67 rfl 4 rfl ?_
            refine sw_iload (pc := 68) F dX3_interpolated_68 1 rfl ?_
            refine sw_iconst (pc := 70) (v := 1) F dX3_interpolated_70 rfl ?_
            refine sw_isub (pc := 71) F dX3_interpolated_71 ?_
            refine sw_eqt (v := .int 4) (by rfl) ?_
            refine sw_iald (pc := 72) F 0 rfl (sw_in rfl) dX3_interpolated_72 ?_
            refine sw_nami (e := p 4) rfl (fun x_15 ex_15 => ?_)
            refine sw_isub (pc := 73) F dX3_interpolated_73 ?_
            refine sw_topi (fun x_16 ex_16 => ?_)
            refine sw_i2l (pc := 74) F dX3_interpolated_74 rfl ?_
            refine sw_lstore (pc := 75) (lv' := [(9, .long x_16.toInt64), (7, .long x_13), (6, .int 5), (4, .long x_9.toInt64), (0, .ref G.2.2.1), (1, .ref d0), (2, .long a)]) F T.1 dX3_interpolated_75 (by decide) rfl ?_
            refine sw_aload_n (pc := 77) F dX3_interpolated_77 rfl 5 rfl ?_
            refine sw_iload (pc := 78) F dX3_interpolated_78 2 rfl ?_
            refine sw_iconst (pc := 80) (v := 1) F dX3_interpolated_80 rfl ?_
            refine sw_isub (pc := 81) F dX3_interpolated_81 ?_
            refine sw_eqt (v := .int 4) (by rfl) ?_
            refine sw_iald (pc := 82) F 0 rfl (sw_in rfl) dX3_interpolated_82 ?_
            refine sw_nami (e := p 4) rfl (fun x_17 ex_17 => ?_)
            refine sw_i2l (pc := 83) F dX3_interpolated_83 rfl ?_
            refine sw_lload (pc := 84) F dX3_interpolated_84 0 rfl ?_
            refine sw_lload (pc := 86) F dX3_interpolated_86 1 rfl ?_
            refine sw_lmul (pc := 88) F dX3_interpolated_88 ?_
            refine sw_topl (fun x_18 ex_18 => ?_)
            refine sw_aload_n (pc := 89) F dX3_interpolated_89 rfl 4 rfl ?_
            refine sw_iload (pc := 90) F dX3_interpolated_90 2 rfl ?_
            refine sw_tbld (pc := 92) F F.2.2.2.2.2.2.2.2.1.2.2.1 (sw_in rfl) (v := .int 800) rfl dX3_interpolated_92 ?_
            refine sw_aload_n (pc := 93) F dX3_interpolated_93 rfl 4 rfl ?_
            refine sw_iload (pc := 94) F dX3_interpolated_94 2 rfl ?_
            refine sw_iconst (pc := 96) (v := 1) F dX3_interpolated_96 rfl ?_
            refine sw_isub (pc := 97) F dX3_interpolated_97 ?_
            refine sw_eqt (v := .int 4) (by rfl) ?_
            refine sw_tbld (pc := 98) F F.2.2.2.2.2.2.2.2.1.2.2.1 (sw_in rfl) (v := .int 600) rfl dX3_interpolated_98 ?_
            refine sw_isub (pc := 99) F dX3_interpolated_99 ?_
            refine sw_eqt (v := .int 200) (by rfl) ?_
            refine sw_i2l (pc := 100) (v := 200) F dX3_interpolated_100 rfl ?_
            refine sw_calll (pc := 101) (wr := [(d0, .inl (G.2.1.1, 6, .inl p))]) (k' := 0) (n' := 0) F (sw_runS (R := ({ frames := 1, cells := 0, slots := 0, locals := 25 } : Room)) (na := 2) F T.2.1 T.2.2.1 (k_J9_floorDiv_f86c9 l G x_18 200 (by decide)) [] rfl (by decide) gX3_interpolated_J9_floorDiv_f86c9 rfl rfl rfl (by decide +kernel) ⟨Nat.le_of_ble_eq_true rfl, Nat.le_of_ble_eq_true rfl⟩ rfl rfl (Nat.le_of_ble_eq_true rfl) dX3_interpolated_101 (Nat.le_of_ble_eq_true rfl) (Nat.le_of_ble_eq_true rfl)) [] [0] rfl rfl (by decide) (by decide) rfl rfl (fun r_19 u_20 h_21 => ?_)
            have e_22 : r_19 = f_J9_floorDiv_f86c9_r x_18 200 := h_21
            refine sw_eq (ws' := [(d0, .inl (G.2.1.1, 6, .inl p))]) (lv' := [(9, .long x_16.toInt64), (7, .long x_13), (6, .int 5), (4, .long x_9.toInt64), (0, .ref G.2.2.1), (1, .ref d0), (2, .long a)]) (st' := [.long r_19, .long x_17.toInt64]) rfl rfl rfl ?_
            refine sw_ladd (pc := 104) F dX3_interpolated_104 ?_
            refine sw_topl (fun x_23 ex_23 => ?_)
            subst ex_23
            subst e_22
            subst ex_18
            subst ex_17
            subst ex_16
            subst ex_15
            subst ex_14
            subst ex_13
            subst ex_12
            subst ex_9
            subst ex_7
            subst ex_5
            subst ex_3
            subst ex_1
            exact sw_lret (pc := 105) F T () (by unfold f_X3_interpolated_D_r; rw [if_pos c_2, if_pos c_4, if_pos c_6, if_pos c_8, if_neg c_10]) rfl dX3_interpolated_105
        · skip
          refine sw_aload_n (pc := 35) F dX3_interpolated_35 rfl 2 rfl ?_
          refine sw_iload (pc := 36) F dX3_interpolated_36 0 rfl ?_
          refine sw_iconst (pc := 38) (v := 1) F dX3_interpolated_38 rfl ?_
          refine sw_isub (pc := 39) F dX3_interpolated_39 ?_
          refine sw_eqt (v := .int 3) (by rfl) ?_
          refine sw_tbld (pc := 40) F F.2.2.2.2.2.2.2.2.1.2.2.1 (sw_in rfl) (v := .int 400) rfl dX3_interpolated_40 ?_
          refine sw_aload_n (pc := 41) F dX3_interpolated_41 rfl 2 rfl ?_
          refine sw_iload (pc := 42) F dX3_interpolated_42 0 rfl ?_
          refine sw_tbld (pc := 44) F F.2.2.2.2.2.2.2.2.1.2.2.1 (sw_in rfl) (v := .int 600) rfl dX3_interpolated_44 ?_
          refine sw_icmp_ge (pc := 45) (tgt := 106) F dX3_interpolated_45 (by decide) (fun c => absurd c (by decide)) (fun _ => ?_)
          refine sw_lconst (pc := 48) (v := 0) F dX3_interpolated_48 rfl ?_
          refine sw_lload_n (pc := 49) F dX3_interpolated_49 rfl 4 rfl ?_
          refine sw_aload_n (pc := 50) F dX3_interpolated_50 rfl 2 rfl ?_
          refine sw_iload (pc := 51) F dX3_interpolated_51 0 rfl ?_
          refine sw_iconst (pc := 53) (v := 1) F dX3_interpolated_53 rfl ?_
          refine sw_isub (pc := 54) F dX3_interpolated_54 ?_
          refine sw_eqt (v := .int 3) (by rfl) ?_
          refine sw_tbld (pc := 55) F F.2.2.2.2.2.2.2.2.1.2.2.1 (sw_in rfl) (v := .int 400) rfl dX3_interpolated_55 ?_
          refine sw_i2l (pc := 56) (v := 400) F dX3_interpolated_56 rfl ?_
          refine sw_lsub (pc := 57) F dX3_interpolated_57 ?_
          refine sw_topl (fun x_24 ex_24 => ?_)
          refine sw_maxL (pc := 58) (rm := ({ frames := 1, cells := 0, slots := 0, locals := 25 } : Room)) F T.2.1 (List.mem_of_getElem? (i := 1) rfl) (List.mem_of_getElem? (i := 2) rfl) (List.mem_of_getElem? (i := 3) rfl) (List.mem_of_getElem? (i := 4) rfl) (Nat.le_of_ble_eq_true rfl) (Nat.le_of_ble_eq_true rfl) (Nat.le_of_ble_eq_true rfl) (Nat.le_of_ble_eq_true rfl) dX3_interpolated_58 ?_
          refine sw_topl (fun x_25 ex_25 => ?_)
          refine sw_lstore (pc := 61) (lv' := [(7, .long x_25), (6, .int 4), (4, .long x_7.toInt64), (0, .ref G.2.2.1), (1, .ref d0), (2, .long a)]) F T.1 dX3_interpolated_61 (by decide) rfl ?_
          refine sw_aload_n (pc := 63) F dX3_interpolated_63 rfl 4 rfl ?_
          refine sw_iload (pc := 64) F dX3_interpolated_64 1 rfl ?_
          refine sw_iald (pc := 66) F 0 rfl (sw_in rfl) dX3_interpolated_66 ?_
          refine sw_nami (e := p 4) rfl (fun x_26 ex_26 => ?_)
          refine sw_aload_n (pc := 67) F dX3_interpolated_67 rfl 4 rfl ?_
          refine sw_iload (pc := 68) F dX3_interpolated_68 1 rfl ?_
          refine sw_iconst (pc := 70) (v := 1) F dX3_interpolated_70 rfl ?_
          refine sw_isub (pc := 71) F dX3_interpolated_71 ?_
          refine sw_eqt (v := .int 3) (by rfl) ?_
          refine sw_iald (pc := 72) F 0 rfl (sw_in rfl) dX3_interpolated_72 ?_
          refine sw_nami (e := p 3) rfl (fun x_27 ex_27 => ?_)
          refine sw_isub (pc := 73) F dX3_interpolated_73 ?_
          refine sw_topi (fun x_28 ex_28 => ?_)
          refine sw_i2l (pc := 74) F dX3_interpolated_74 rfl ?_
          refine sw_lstore (pc := 75) (lv' := [(9, .long x_28.toInt64), (7, .long x_25), (6, .int 4), (4, .long x_7.toInt64), (0, .ref G.2.2.1), (1, .ref d0), (2, .long a)]) F T.1 dX3_interpolated_75 (by decide) rfl ?_
          refine sw_aload_n (pc := 77) F dX3_interpolated_77 rfl 5 rfl ?_
          refine sw_iload (pc := 78) F dX3_interpolated_78 2 rfl ?_
          refine sw_iconst (pc := 80) (v := 1) F dX3_interpolated_80 rfl ?_
          refine sw_isub (pc := 81) F dX3_interpolated_81 ?_
          refine sw_eqt (v := .int 3) (by rfl) ?_
          refine sw_iald (pc := 82) F 0 rfl (sw_in rfl) dX3_interpolated_82 ?_
          refine sw_nami (e := p 3) rfl (fun x_29 ex_29 => ?_)
          refine sw_i2l (pc := 83) F dX3_interpolated_83 rfl ?_
          refine sw_lload (pc := 84) F dX3_interpolated_84 0 rfl ?_
          refine sw_lload (pc := 86) F dX3_interpolated_86 1 rfl ?_
          refine sw_lmul (pc := 88) F dX3_interpolated_88 ?_
          refine sw_topl (fun x_30 ex_30 => ?_)
          refine sw_aload_n (pc := 89) F dX3_interpolated_89 rfl 4 rfl ?_
          refine sw_iload (pc := 90) F dX3_interpolated_90 2 rfl ?_
          refine sw_tbld (pc := 92) F F.2.2.2.2.2.2.2.2.1.2.2.1 (sw_in rfl) (v := .int 600) rfl dX3_interpolated_92 ?_
          refine sw_aload_n (pc := 93) F dX3_interpolated_93 rfl 4 rfl ?_
          refine sw_iload (pc := 94) F dX3_interpolated_94 2 rfl ?_
          refine sw_iconst (pc := 96) (v := 1) F dX3_interpolated_96 rfl ?_
          refine sw_isub (pc := 97) F dX3_interpolated_97 ?_
          refine sw_eqt (v := .int 3) (by rfl) ?_
          refine sw_tbld (pc := 98) F F.2.2.2.2.2.2.2.2.1.2.2.1 (sw_in rfl) (v := .int 400) rfl dX3_interpolated_98 ?_
          refine sw_isub (pc := 99) F dX3_interpolated_99 ?_
          refine sw_eqt (v := .int 200) (by rfl) ?_
          refine sw_i2l (pc := 100) (v := 200) F dX3_interpolated_100 rfl ?_
          refine sw_calll (pc := 101) (wr := [(d0, .inl (G.2.1.1, 6, .inl p))]) (k' := 0) (n' := 0) F (sw_runS (R := ({ frames := 1, cells := 0, slots := 0, locals := 25 } : Room)) (na := 2) F T.2.1 T.2.2.1 (k_J9_floorDiv_f86c9 l G x_30 200 (by decide)) [] rfl (by decide) gX3_interpolated_J9_floorDiv_f86c9 rfl rfl rfl (by decide +kernel) ⟨Nat.le_of_ble_eq_true rfl, Nat.le_of_ble_eq_true rfl⟩ rfl rfl (Nat.le_of_ble_eq_true rfl) dX3_interpolated_101 (Nat.le_of_ble_eq_true rfl) (Nat.le_of_ble_eq_true rfl)) [] [0] rfl rfl (by decide) (by decide) rfl rfl (fun r_31 u_32 h_33 => ?_)
          have e_34 : r_31 = f_J9_floorDiv_f86c9_r x_30 200 := h_33
          refine sw_eq (ws' := [(d0, .inl (G.2.1.1, 6, .inl p))]) (lv' := [(9, .long x_28.toInt64), (7, .long x_25), (6, .int 4), (4, .long x_7.toInt64), (0, .ref G.2.2.1), (1, .ref d0), (2, .long a)]) (st' := [.long r_31, .long x_29.toInt64]) rfl rfl rfl ?_
          refine sw_ladd (pc := 104) F dX3_interpolated_104 ?_
          refine sw_topl (fun x_35 ex_35 => ?_)
          subst ex_35
          subst e_34
          subst ex_30
          subst ex_29
          subst ex_28
          subst ex_27
          subst ex_26
          subst ex_25
          subst ex_24
          subst ex_7
          subst ex_5
          subst ex_3
          subst ex_1
          exact sw_lret (pc := 105) F T () (by unfold f_X3_interpolated_D_r; rw [if_pos c_2, if_pos c_4, if_pos c_6, if_neg c_8]) rfl dX3_interpolated_105
      · skip
        refine sw_aload_n (pc := 35) F dX3_interpolated_35 rfl 2 rfl ?_
        refine sw_iload (pc := 36) F dX3_interpolated_36 0 rfl ?_
        refine sw_iconst (pc := 38) (v := 1) F dX3_interpolated_38 rfl ?_
        refine sw_isub (pc := 39) F dX3_interpolated_39 ?_
        refine sw_eqt (v := .int 2) (by rfl) ?_
        refine sw_tbld (pc := 40) F F.2.2.2.2.2.2.2.2.1.2.2.1 (sw_in rfl) (v := .int 200) rfl dX3_interpolated_40 ?_
        refine sw_aload_n (pc := 41) F dX3_interpolated_41 rfl 2 rfl ?_
        refine sw_iload (pc := 42) F dX3_interpolated_42 0 rfl ?_
        refine sw_tbld (pc := 44) F F.2.2.2.2.2.2.2.2.1.2.2.1 (sw_in rfl) (v := .int 400) rfl dX3_interpolated_44 ?_
        refine sw_icmp_ge (pc := 45) (tgt := 106) F dX3_interpolated_45 (by decide) (fun c => absurd c (by decide)) (fun _ => ?_)
        refine sw_lconst (pc := 48) (v := 0) F dX3_interpolated_48 rfl ?_
        refine sw_lload_n (pc := 49) F dX3_interpolated_49 rfl 4 rfl ?_
        refine sw_aload_n (pc := 50) F dX3_interpolated_50 rfl 2 rfl ?_
        refine sw_iload (pc := 51) F dX3_interpolated_51 0 rfl ?_
        refine sw_iconst (pc := 53) (v := 1) F dX3_interpolated_53 rfl ?_
        refine sw_isub (pc := 54) F dX3_interpolated_54 ?_
        refine sw_eqt (v := .int 2) (by rfl) ?_
        refine sw_tbld (pc := 55) F F.2.2.2.2.2.2.2.2.1.2.2.1 (sw_in rfl) (v := .int 200) rfl dX3_interpolated_55 ?_
        refine sw_i2l (pc := 56) (v := 200) F dX3_interpolated_56 rfl ?_
        refine sw_lsub (pc := 57) F dX3_interpolated_57 ?_
        refine sw_topl (fun x_36 ex_36 => ?_)
        refine sw_maxL (pc := 58) (rm := ({ frames := 1, cells := 0, slots := 0, locals := 25 } : Room)) F T.2.1 (List.mem_of_getElem? (i := 1) rfl) (List.mem_of_getElem? (i := 2) rfl) (List.mem_of_getElem? (i := 3) rfl) (List.mem_of_getElem? (i := 4) rfl) (Nat.le_of_ble_eq_true rfl) (Nat.le_of_ble_eq_true rfl) (Nat.le_of_ble_eq_true rfl) (Nat.le_of_ble_eq_true rfl) dX3_interpolated_58 ?_
        refine sw_topl (fun x_37 ex_37 => ?_)
        refine sw_lstore (pc := 61) (lv' := [(7, .long x_37), (6, .int 3), (4, .long x_5.toInt64), (0, .ref G.2.2.1), (1, .ref d0), (2, .long a)]) F T.1 dX3_interpolated_61 (by decide) rfl ?_
        refine sw_aload_n (pc := 63) F dX3_interpolated_63 rfl 4 rfl ?_
        refine sw_iload (pc := 64) F dX3_interpolated_64 1 rfl ?_
        refine sw_iald (pc := 66) F 0 rfl (sw_in rfl) dX3_interpolated_66 ?_
        refine sw_nami (e := p 3) rfl (fun x_38 ex_38 => ?_)
        refine sw_aload_n (pc := 67) F dX3_interpolated_67 rfl 4 rfl ?_
        refine sw_iload (pc := 68) F dX3_interpolated_68 1 rfl ?_
        refine sw_iconst (pc := 70) (v := 1) F dX3_interpolated_70 rfl ?_
        refine sw_isub (pc := 71) F dX3_interpolated_71 ?_
        refine sw_eqt (v := .int 2) (by rfl) ?_
        refine sw_iald (pc := 72) F 0 rfl (sw_in rfl) dX3_interpolated_72 ?_
        refine sw_nami (e := p 2) rfl (fun x_39 ex_39 => ?_)
        refine sw_isub (pc := 73) F dX3_interpolated_73 ?_
        refine sw_topi (fun x_40 ex_40 => ?_)
        refine sw_i2l (pc := 74) F dX3_interpolated_74 rfl ?_
        refine sw_lstore (pc := 75) (lv' := [(9, .long x_40.toInt64), (7, .long x_37), (6, .int 3), (4, .long x_5.toInt64), (0, .ref G.2.2.1), (1, .ref d0), (2, .long a)]) F T.1 dX3_interpolated_75 (by decide) rfl ?_
        refine sw_aload_n (pc := 77) F dX3_interpolated_77 rfl 5 rfl ?_
        refine sw_iload (pc := 78) F dX3_interpolated_78 2 rfl ?_
        refine sw_iconst (pc := 80) (v := 1) F dX3_interpolated_80 rfl ?_
        refine sw_isub (pc := 81) F dX3_interpolated_81 ?_
        refine sw_eqt (v := .int 2) (by rfl) ?_
        refine sw_iald (pc := 82) F 0 rfl (sw_in rfl) dX3_interpolated_82 ?_
        refine sw_nami (e := p 2) rfl (fun x_41 ex_41 => ?_)
        refine sw_i2l (pc := 83) F dX3_interpolated_83 rfl ?_
        refine sw_lload (pc := 84) F dX3_interpolated_84 0 rfl ?_
        refine sw_lload (pc := 86) F dX3_interpolated_86 1 rfl ?_
        refine sw_lmul (pc := 88) F dX3_interpolated_88 ?_
        refine sw_topl (fun x_42 ex_42 => ?_)
        refine sw_aload_n (pc := 89) F dX3_interpolated_89 rfl 4 rfl ?_
        refine sw_iload (pc := 90) F dX3_interpolated_90 2 rfl ?_
        refine sw_tbld (pc := 92) F F.2.2.2.2.2.2.2.2.1.2.2.1 (sw_in rfl) (v := .int 400) rfl dX3_interpolated_92 ?_
        refine sw_aload_n (pc := 93) F dX3_interpolated_93 rfl 4 rfl ?_
        refine sw_iload (pc := 94) F dX3_interpolated_94 2 rfl ?_
        refine sw_iconst (pc := 96) (v := 1) F dX3_interpolated_96 rfl ?_
        refine sw_isub (pc := 97) F dX3_interpolated_97 ?_
        refine sw_eqt (v := .int 2) (by rfl) ?_
        refine sw_tbld (pc := 98) F F.2.2.2.2.2.2.2.2.1.2.2.1 (sw_in rfl) (v := .int 200) rfl dX3_interpolated_98 ?_
        refine sw_isub (pc := 99) F dX3_interpolated_99 ?_
        refine sw_eqt (v := .int 200) (by rfl) ?_
        refine sw_i2l (pc := 100) (v := 200) F dX3_interpolated_100 rfl ?_
        refine sw_calll (pc := 101) (wr := [(d0, .inl (G.2.1.1, 6, .inl p))]) (k' := 0) (n' := 0) F (sw_runS (R := ({ frames := 1, cells := 0, slots := 0, locals := 25 } : Room)) (na := 2) F T.2.1 T.2.2.1 (k_J9_floorDiv_f86c9 l G x_42 200 (by decide)) [] rfl (by decide) gX3_interpolated_J9_floorDiv_f86c9 rfl rfl rfl (by decide +kernel) ⟨Nat.le_of_ble_eq_true rfl, Nat.le_of_ble_eq_true rfl⟩ rfl rfl (Nat.le_of_ble_eq_true rfl) dX3_interpolated_101 (Nat.le_of_ble_eq_true rfl) (Nat.le_of_ble_eq_true rfl)) [] [0] rfl rfl (by decide) (by decide) rfl rfl (fun r_43 u_44 h_45 => ?_)
        have e_46 : r_43 = f_J9_floorDiv_f86c9_r x_42 200 := h_45
        refine sw_eq (ws' := [(d0, .inl (G.2.1.1, 6, .inl p))]) (lv' := [(9, .long x_40.toInt64), (7, .long x_37), (6, .int 3), (4, .long x_5.toInt64), (0, .ref G.2.2.1), (1, .ref d0), (2, .long a)]) (st' := [.long r_43, .long x_41.toInt64]) rfl rfl rfl ?_
        refine sw_ladd (pc := 104) F dX3_interpolated_104 ?_
        refine sw_topl (fun x_47 ex_47 => ?_)
        subst ex_47
        subst e_46
        subst ex_42
        subst ex_41
        subst ex_40
        subst ex_39
        subst ex_38
        subst ex_37
        subst ex_36
        subst ex_5
        subst ex_3
        subst ex_1
        exact sw_lret (pc := 105) F T () (by unfold f_X3_interpolated_D_r; rw [if_pos c_2, if_pos c_4, if_neg c_6]) rfl dX3_interpolated_105
    · skip
      refine sw_aload_n (pc := 35) F dX3_interpolated_35 rfl 2 rfl ?_
      refine sw_iload (pc := 36) F dX3_interpolated_36 0 rfl ?_
      refine sw_iconst (pc := 38) (v := 1) F dX3_interpolated_38 rfl ?_
      refine sw_isub (pc := 39) F dX3_interpolated_39 ?_
      refine sw_eqt (v := .int 1) (by rfl) ?_
      refine sw_tbld (pc := 40) F F.2.2.2.2.2.2.2.2.1.2.2.1 (sw_in rfl) (v := .int 0) rfl dX3_interpolated_40 ?_
      refine sw_aload_n (pc := 41) F dX3_interpolated_41 rfl 2 rfl ?_
      refine sw_iload (pc := 42) F dX3_interpolated_42 0 rfl ?_
      refine sw_tbld (pc := 44) F F.2.2.2.2.2.2.2.2.1.2.2.1 (sw_in rfl) (v := .int 200) rfl dX3_interpolated_44 ?_
      refine sw_icmp_ge (pc := 45) (tgt := 106) F dX3_interpolated_45 (by decide) (fun c => absurd c (by decide)) (fun _ => ?_)
      refine sw_lconst (pc := 48) (v := 0) F dX3_interpolated_48 rfl ?_
      refine sw_lload_n (pc := 49) F dX3_interpolated_49 rfl 4 rfl ?_
      refine sw_aload_n (pc := 50) F dX3_interpolated_50 rfl 2 rfl ?_
      refine sw_iload (pc := 51) F dX3_interpolated_51 0 rfl ?_
      refine sw_iconst (pc := 53) (v := 1) F dX3_interpolated_53 rfl ?_
      refine sw_isub (pc := 54) F dX3_interpolated_54 ?_
      refine sw_eqt (v := .int 1) (by rfl) ?_
      refine sw_tbld (pc := 55) F F.2.2.2.2.2.2.2.2.1.2.2.1 (sw_in rfl) (v := .int 0) rfl dX3_interpolated_55 ?_
      refine sw_i2l (pc := 56) (v := 0) F dX3_interpolated_56 rfl ?_
      refine sw_lsub (pc := 57) F dX3_interpolated_57 ?_
      refine sw_topl (fun x_48 ex_48 => ?_)
      refine sw_maxL (pc := 58) (rm := ({ frames := 1, cells := 0, slots := 0, locals := 25 } : Room)) F T.2.1 (List.mem_of_getElem? (i := 1) rfl) (List.mem_of_getElem? (i := 2) rfl) (List.mem_of_getElem? (i := 3) rfl) (List.mem_of_getElem? (i := 4) rfl) (Nat.le_of_ble_eq_true rfl) (Nat.le_of_ble_eq_true rfl) (Nat.le_of_ble_eq_true rfl) (Nat.le_of_ble_eq_true rfl) dX3_interpolated_58 ?_
      refine sw_topl (fun x_49 ex_49 => ?_)
      refine sw_lstore (pc := 61) (lv' := [(7, .long x_49), (6, .int 2), (4, .long x_3.toInt64), (0, .ref G.2.2.1), (1, .ref d0), (2, .long a)]) F T.1 dX3_interpolated_61 (by decide) rfl ?_
      refine sw_aload_n (pc := 63) F dX3_interpolated_63 rfl 4 rfl ?_
      refine sw_iload (pc := 64) F dX3_interpolated_64 1 rfl ?_
      refine sw_iald (pc := 66) F 0 rfl (sw_in rfl) dX3_interpolated_66 ?_
      refine sw_nami (e := p 2) rfl (fun x_50 ex_50 => ?_)
      refine sw_aload_n (pc := 67) F dX3_interpolated_67 rfl 4 rfl ?_
      refine sw_iload (pc := 68) F dX3_interpolated_68 1 rfl ?_
      refine sw_iconst (pc := 70) (v := 1) F dX3_interpolated_70 rfl ?_
      refine sw_isub (pc := 71) F dX3_interpolated_71 ?_
      refine sw_eqt (v := .int 1) (by rfl) ?_
      refine sw_iald (pc := 72) F 0 rfl (sw_in rfl) dX3_interpolated_72 ?_
      refine sw_nami (e := p 1) rfl (fun x_51 ex_51 => ?_)
      refine sw_isub (pc := 73) F dX3_interpolated_73 ?_
      refine sw_topi (fun x_52 ex_52 => ?_)
      refine sw_i2l (pc := 74) F dX3_interpolated_74 rfl ?_
      refine sw_lstore (pc := 75) (lv' := [(9, .long x_52.toInt64), (7, .long x_49), (6, .int 2), (4, .long x_3.toInt64), (0, .ref G.2.2.1), (1, .ref d0), (2, .long a)]) F T.1 dX3_interpolated_75 (by decide) rfl ?_
      refine sw_aload_n (pc := 77) F dX3_interpolated_77 rfl 5 rfl ?_
      refine sw_iload (pc := 78) F dX3_interpolated_78 2 rfl ?_
      refine sw_iconst (pc := 80) (v := 1) F dX3_interpolated_80 rfl ?_
      refine sw_isub (pc := 81) F dX3_interpolated_81 ?_
      refine sw_eqt (v := .int 1) (by rfl) ?_
      refine sw_iald (pc := 82) F 0 rfl (sw_in rfl) dX3_interpolated_82 ?_
      refine sw_nami (e := p 1) rfl (fun x_53 ex_53 => ?_)
      refine sw_i2l (pc := 83) F dX3_interpolated_83 rfl ?_
      refine sw_lload (pc := 84) F dX3_interpolated_84 0 rfl ?_
      refine sw_lload (pc := 86) F dX3_interpolated_86 1 rfl ?_
      refine sw_lmul (pc := 88) F dX3_interpolated_88 ?_
      refine sw_topl (fun x_54 ex_54 => ?_)
      refine sw_aload_n (pc := 89) F dX3_interpolated_89 rfl 4 rfl ?_
      refine sw_iload (pc := 90) F dX3_interpolated_90 2 rfl ?_
      refine sw_tbld (pc := 92) F F.2.2.2.2.2.2.2.2.1.2.2.1 (sw_in rfl) (v := .int 200) rfl dX3_interpolated_92 ?_
      refine sw_aload_n (pc := 93) F dX3_interpolated_93 rfl 4 rfl ?_
      refine sw_iload (pc := 94) F dX3_interpolated_94 2 rfl ?_
      refine sw_iconst (pc := 96) (v := 1) F dX3_interpolated_96 rfl ?_
      refine sw_isub (pc := 97) F dX3_interpolated_97 ?_
      refine sw_eqt (v := .int 1) (by rfl) ?_
      refine sw_tbld (pc := 98) F F.2.2.2.2.2.2.2.2.1.2.2.1 (sw_in rfl) (v := .int 0) rfl dX3_interpolated_98 ?_
      refine sw_isub (pc := 99) F dX3_interpolated_99 ?_
      refine sw_eqt (v := .int 200) (by rfl) ?_
      refine sw_i2l (pc := 100) (v := 200) F dX3_interpolated_100 rfl ?_
      refine sw_calll (pc := 101) (wr := [(d0, .inl (G.2.1.1, 6, .inl p))]) (k' := 0) (n' := 0) F (sw_runS (R := ({ frames := 1, cells := 0, slots := 0, locals := 25 } : Room)) (na := 2) F T.2.1 T.2.2.1 (k_J9_floorDiv_f86c9 l G x_54 200 (by decide)) [] rfl (by decide) gX3_interpolated_J9_floorDiv_f86c9 rfl rfl rfl (by decide +kernel) ⟨Nat.le_of_ble_eq_true rfl, Nat.le_of_ble_eq_true rfl⟩ rfl rfl (Nat.le_of_ble_eq_true rfl) dX3_interpolated_101 (Nat.le_of_ble_eq_true rfl) (Nat.le_of_ble_eq_true rfl)) [] [0] rfl rfl (by decide) (by decide) rfl rfl (fun r_55 u_56 h_57 => ?_)
      have e_58 : r_55 = f_J9_floorDiv_f86c9_r x_54 200 := h_57
      refine sw_eq (ws' := [(d0, .inl (G.2.1.1, 6, .inl p))]) (lv' := [(9, .long x_52.toInt64), (7, .long x_49), (6, .int 2), (4, .long x_3.toInt64), (0, .ref G.2.2.1), (1, .ref d0), (2, .long a)]) (st' := [.long r_55, .long x_53.toInt64]) rfl rfl rfl ?_
      refine sw_ladd (pc := 104) F dX3_interpolated_104 ?_
      refine sw_topl (fun x_59 ex_59 => ?_)
      subst ex_59
      subst e_58
      subst ex_54
      subst ex_53
      subst ex_52
      subst ex_51
      subst ex_50
      subst ex_49
      subst ex_48
      subst ex_3
      subst ex_1
      exact sw_lret (pc := 105) F T () (by unfold f_X3_interpolated_D_r; rw [if_pos c_2, if_neg c_4]) rfl dX3_interpolated_105
  · skip
    refine sw_aload_n (pc := 35) F dX3_interpolated_35 rfl 2 rfl ?_
    refine sw_iload (pc := 36) F dX3_interpolated_36 0 rfl ?_
    refine sw_iconst (pc := 38) (v := 1) F dX3_interpolated_38 rfl ?_
    refine sw_isub (pc := 39) F dX3_interpolated_39 ?_
    refine sw_eqt (v := .int 0) (by rfl) ?_
    refine sw_tbld (pc := 40) F F.2.2.2.2.2.2.2.2.1.2.2.1 (sw_in rfl) (v := .int (-200)) rfl dX3_interpolated_40 ?_
    refine sw_aload_n (pc := 41) F dX3_interpolated_41 rfl 2 rfl ?_
    refine sw_iload (pc := 42) F dX3_interpolated_42 0 rfl ?_
    refine sw_tbld (pc := 44) F F.2.2.2.2.2.2.2.2.1.2.2.1 (sw_in rfl) (v := .int 0) rfl dX3_interpolated_44 ?_
    refine sw_icmp_ge (pc := 45) (tgt := 106) F dX3_interpolated_45 (by decide) (fun c => absurd c (by decide)) (fun _ => ?_)
    refine sw_lconst (pc := 48) (v := 0) F dX3_interpolated_48 rfl ?_
    refine sw_lload_n (pc := 49) F dX3_interpolated_49 rfl 4 rfl ?_
    refine sw_aload_n (pc := 50) F dX3_interpolated_50 rfl 2 rfl ?_
    refine sw_iload (pc := 51) F dX3_interpolated_51 0 rfl ?_
    refine sw_iconst (pc := 53) (v := 1) F dX3_interpolated_53 rfl ?_
    refine sw_isub (pc := 54) F dX3_interpolated_54 ?_
    refine sw_eqt (v := .int 0) (by rfl) ?_
    refine sw_tbld (pc := 55) F F.2.2.2.2.2.2.2.2.1.2.2.1 (sw_in rfl) (v := .int (-200)) rfl dX3_interpolated_55 ?_
    refine sw_i2l (pc := 56) (v := (-200)) F dX3_interpolated_56 rfl ?_
    refine sw_lsub (pc := 57) F dX3_interpolated_57 ?_
    refine sw_topl (fun x_60 ex_60 => ?_)
    refine sw_maxL (pc := 58) (rm := ({ frames := 1, cells := 0, slots := 0, locals := 25 } : Room)) F T.2.1 (List.mem_of_getElem? (i := 1) rfl) (List.mem_of_getElem? (i := 2) rfl) (List.mem_of_getElem? (i := 3) rfl) (List.mem_of_getElem? (i := 4) rfl) (Nat.le_of_ble_eq_true rfl) (Nat.le_of_ble_eq_true rfl) (Nat.le_of_ble_eq_true rfl) (Nat.le_of_ble_eq_true rfl) dX3_interpolated_58 ?_
    refine sw_topl (fun x_61 ex_61 => ?_)
    refine sw_lstore (pc := 61) (lv' := [(7, .long x_61), (6, .int 1), (4, .long x_1.toInt64), (0, .ref G.2.2.1), (1, .ref d0), (2, .long a)]) F T.1 dX3_interpolated_61 (by decide) rfl ?_
    refine sw_aload_n (pc := 63) F dX3_interpolated_63 rfl 4 rfl ?_
    refine sw_iload (pc := 64) F dX3_interpolated_64 1 rfl ?_
    refine sw_iald (pc := 66) F 0 rfl (sw_in rfl) dX3_interpolated_66 ?_
    refine sw_nami (e := p 1) rfl (fun x_62 ex_62 => ?_)
    refine sw_aload_n (pc := 67) F dX3_interpolated_67 rfl 4 rfl ?_
    refine sw_iload (pc := 68) F dX3_interpolated_68 1 rfl ?_
    refine sw_iconst (pc := 70) (v := 1) F dX3_interpolated_70 rfl ?_
    refine sw_isub (pc := 71) F dX3_interpolated_71 ?_
    refine sw_eqt (v := .int 0) (by rfl) ?_
    refine sw_iald (pc := 72) F 0 rfl (sw_in rfl) dX3_interpolated_72 ?_
    refine sw_nami (e := p 0) rfl (fun x_63 ex_63 => ?_)
    refine sw_isub (pc := 73) F dX3_interpolated_73 ?_
    refine sw_topi (fun x_64 ex_64 => ?_)
    refine sw_i2l (pc := 74) F dX3_interpolated_74 rfl ?_
    refine sw_lstore (pc := 75) (lv' := [(9, .long x_64.toInt64), (7, .long x_61), (6, .int 1), (4, .long x_1.toInt64), (0, .ref G.2.2.1), (1, .ref d0), (2, .long a)]) F T.1 dX3_interpolated_75 (by decide) rfl ?_
    refine sw_aload_n (pc := 77) F dX3_interpolated_77 rfl 5 rfl ?_
    refine sw_iload (pc := 78) F dX3_interpolated_78 2 rfl ?_
    refine sw_iconst (pc := 80) (v := 1) F dX3_interpolated_80 rfl ?_
    refine sw_isub (pc := 81) F dX3_interpolated_81 ?_
    refine sw_eqt (v := .int 0) (by rfl) ?_
    refine sw_iald (pc := 82) F 0 rfl (sw_in rfl) dX3_interpolated_82 ?_
    refine sw_nami (e := p 0) rfl (fun x_65 ex_65 => ?_)
    refine sw_i2l (pc := 83) F dX3_interpolated_83 rfl ?_
    refine sw_lload (pc := 84) F dX3_interpolated_84 0 rfl ?_
    refine sw_lload (pc := 86) F dX3_interpolated_86 1 rfl ?_
    refine sw_lmul (pc := 88) F dX3_interpolated_88 ?_
    refine sw_topl (fun x_66 ex_66 => ?_)
    refine sw_aload_n (pc := 89) F dX3_interpolated_89 rfl 4 rfl ?_
    refine sw_iload (pc := 90) F dX3_interpolated_90 2 rfl ?_
    refine sw_tbld (pc := 92) F F.2.2.2.2.2.2.2.2.1.2.2.1 (sw_in rfl) (v := .int 0) rfl dX3_interpolated_92 ?_
    refine sw_aload_n (pc := 93) F dX3_interpolated_93 rfl 4 rfl ?_
    refine sw_iload (pc := 94) F dX3_interpolated_94 2 rfl ?_
    refine sw_iconst (pc := 96) (v := 1) F dX3_interpolated_96 rfl ?_
    refine sw_isub (pc := 97) F dX3_interpolated_97 ?_
    refine sw_eqt (v := .int 0) (by rfl) ?_
    refine sw_tbld (pc := 98) F F.2.2.2.2.2.2.2.2.1.2.2.1 (sw_in rfl) (v := .int (-200)) rfl dX3_interpolated_98 ?_
    refine sw_isub (pc := 99) F dX3_interpolated_99 ?_
    refine sw_eqt (v := .int 200) (by rfl) ?_
    refine sw_i2l (pc := 100) (v := 200) F dX3_interpolated_100 rfl ?_
    refine sw_calll (pc := 101) (wr := [(d0, .inl (G.2.1.1, 6, .inl p))]) (k' := 0) (n' := 0) F (sw_runS (R := ({ frames := 1, cells := 0, slots := 0, locals := 25 } : Room)) (na := 2) F T.2.1 T.2.2.1 (k_J9_floorDiv_f86c9 l G x_66 200 (by decide)) [] rfl (by decide) gX3_interpolated_J9_floorDiv_f86c9 rfl rfl rfl (by decide +kernel) ⟨Nat.le_of_ble_eq_true rfl, Nat.le_of_ble_eq_true rfl⟩ rfl rfl (Nat.le_of_ble_eq_true rfl) dX3_interpolated_101 (Nat.le_of_ble_eq_true rfl) (Nat.le_of_ble_eq_true rfl)) [] [0] rfl rfl (by decide) (by decide) rfl rfl (fun r_67 u_68 h_69 => ?_)
    have e_70 : r_67 = f_J9_floorDiv_f86c9_r x_66 200 := h_69
    refine sw_eq (ws' := [(d0, .inl (G.2.1.1, 6, .inl p))]) (lv' := [(9, .long x_64.toInt64), (7, .long x_61), (6, .int 1), (4, .long x_1.toInt64), (0, .ref G.2.2.1), (1, .ref d0), (2, .long a)]) (st' := [.long r_67, .long x_65.toInt64]) rfl rfl rfl ?_
    refine sw_ladd (pc := 104) F dX3_interpolated_104 ?_
    refine sw_topl (fun x_71 ex_71 => ?_)
    subst ex_71
    subst e_70
    subst ex_66
    subst ex_65
    subst ex_64
    subst ex_63
    subst ex_62
    subst ex_61
    subst ex_60
    subst ex_1
    exact sw_lret (pc := 105) F T () (by unfold f_X3_interpolated_D_r; rw [if_neg c_2]) rfl dX3_interpolated_105
def f_X3_interpolated_F_r (p : Nat → Int32) (a : Int64) : Int64 := if 1000 ≤ a then (if 3000 ≤ a then (if 10000 ≤ a then (if 30000 ≤ a then ((p 4).toInt64) else (((p 3).toInt64 + (f_J9_floorDiv_f86c9_r (((p 4) - (p 3)).toInt64 * (if (a - 10000) < (0 : Int64) then (0 : Int64) else (a - 10000))) 20000)))) else (((p 2).toInt64 + (f_J9_floorDiv_f86c9_r (((p 3) - (p 2)).toInt64 * (if (a - 3000) < (0 : Int64) then (0 : Int64) else (a - 3000))) 7000)))) else (((p 1).toInt64 + (f_J9_floorDiv_f86c9_r (((p 2) - (p 1)).toInt64 * (if (a - 1000) < (0 : Int64) then (0 : Int64) else (a - 1000))) 2000)))) else (((p 0).toInt64 + (f_J9_floorDiv_f86c9_r (((p 1) - (p 0)).toInt64 * (if (a - 0) < (0 : Int64) then (0 : Int64) else (a - 0))) 1000)))
set_option maxHeartbeats 4000000 in
set_option maxRecDepth 100000 in
theorem k_X3_interpolated_F (l : Launch) (G : sw_E) (d0 : Nat) (p : Nat → Int32) (a : Int64)  : sw_M l G yX3_interpolated wsX3_interpolated ({ frames := 1, cells := 0, slots := 0, locals := 25 } : Room) [.ref G.2.2.2, .ref d0, .long a] [(d0, .inl (G.2.1.1, 5, .inl p))] (sw_QL G (S := Unit) (fun (r : Int64) (_ : Unit) => r = f_X3_interpolated_F_r p a) (fun _ => [(d0, .inl (G.2.1.1, 5, .inl p))])) 0 0 := by
  refine sw_start (cc := cX3_interpolated) (maxL := 11) (ret := some .long) (lv := [(0, .ref G.2.2.2), (1, .ref d0), (2, .long a)]) (own := RX3) (nm := "interpolated") (by decide +kernel) rfl rfl rfl rfl (Nat.le_of_ble_eq_true rfl) (fun C F T => ?_)
  refine sw_lconst (pc := 0) (v := 0) F dX3_interpolated_0 rfl ?_
  refine sw_lstore (pc := 1) (lv' := [(4, .long 0), (0, .ref G.2.2.2), (1, .ref d0), (2, .long a)]) F T.1 dX3_interpolated_1 (by decide) rfl ?_
  refine sw_iconst (pc := 3) (v := 0) F dX3_interpolated_3 rfl ?_
  refine sw_istore (pc := 4) (lv' := [(6, .int 0), (4, .long 0), (0, .ref G.2.2.2), (1, .ref d0), (2, .long a)]) F T.1 dX3_interpolated_4 (by decide) rfl ?_
  refine sw_iload (pc := 6) F dX3_interpolated_6 0 rfl ?_
  refine sw_aload_n (pc := 8) F dX3_interpolated_8 rfl 2 rfl ?_
  refine sw_tblen (pc := 9) (v := 5) F F.2.2.2.2.2.2.2.2.1.2.2.2.1 rfl dX3_interpolated_9 ?_
  refine sw_icmp_ge (pc := 10) (tgt := 119) F dX3_interpolated_10 (by decide) (fun c => absurd c (by decide)) (fun _ => ?_)
  refine sw_iload (pc := 13) F dX3_interpolated_13 0 rfl ?_
  refine sw_aload_n (pc := 15) F dX3_interpolated_15 rfl 3 rfl ?_
  refine sw_alenI (pc := 16) (v := 5) F 0 rfl rfl dX3_interpolated_16 ?_
  refine sw_icmp_ge (pc := 17) (tgt := 119) F dX3_interpolated_17 (by decide) (fun c => absurd c (by decide)) (fun _ => ?_)
  refine sw_iload (pc := 20) F dX3_interpolated_20 0 rfl ?_
  refine sw_if_le (pc := 22) (tgt := 106) F dX3_interpolated_22 (by decide) (fun _ => ?_) (fun c => absurd c (by decide))
  refine sw_aload_n (pc := 106) F dX3_interpolated_106 rfl 3 rfl ?_
  refine sw_iload (pc := 107) F dX3_interpolated_107 0 rfl ?_
  refine sw_iald (pc := 109) F 0 rfl (sw_in rfl) dX3_interpolated_109 ?_
  refine sw_nami (e := p 0) rfl (fun x_1 ex_1 => ?_)
  refine sw_i2l (pc := 110) F dX3_interpolated_110 rfl ?_
  refine sw_lstore (pc := 111) (lv' := [(4, .long x_1.toInt64), (6, .int 0), (0, .ref G.2.2.2), (1, .ref d0), (2, .long a)]) F T.1 dX3_interpolated_111 (by decide) rfl ?_
  refine sw_iinc (pc := 113) (v := 1) (lv' := [(6, .int 1), (4, .long x_1.toInt64), (0, .ref G.2.2.2), (1, .ref d0), (2, .long a)]) F T.1 dX3_interpolated_113 (q := 1) rfl rfl (by decide) rfl ?_
  refine sw_goto (pc := 116) (tgt := 6) F dX3_interpolated_116 (by decide) ?_
  refine sw_iload (pc := 6) F dX3_interpolated_6 0 rfl ?_
  refine sw_aload_n (pc := 8) F dX3_interpolated_8 rfl 2 rfl ?_
  refine sw_tblen (pc := 9) (v := 5) F F.2.2.2.2.2.2.2.2.1.2.2.2.1 rfl dX3_interpolated_9 ?_
  refine sw_icmp_ge (pc := 10) (tgt := 119) F dX3_interpolated_10 (by decide) (fun c => absurd c (by decide)) (fun _ => ?_)
  refine sw_iload (pc := 13) F dX3_interpolated_13 0 rfl ?_
  refine sw_aload_n (pc := 15) F dX3_interpolated_15 rfl 3 rfl ?_
  refine sw_alenI (pc := 16) (v := 5) F 0 rfl rfl dX3_interpolated_16 ?_
  refine sw_icmp_ge (pc := 17) (tgt := 119) F dX3_interpolated_17 (by decide) (fun c => absurd c (by decide)) (fun _ => ?_)
  refine sw_iload (pc := 20) F dX3_interpolated_20 0 rfl ?_
  refine sw_if_le (pc := 22) (tgt := 106) F dX3_interpolated_22 (by decide) (fun c => absurd c (by decide)) (fun _ => ?_)
  refine sw_lload_n (pc := 25) F dX3_interpolated_25 rfl 4 rfl ?_
  refine sw_aload_n (pc := 26) F dX3_interpolated_26 rfl 2 rfl ?_
  refine sw_iload (pc := 27) F dX3_interpolated_27 0 rfl ?_
  refine sw_tbld (pc := 29) F F.2.2.2.2.2.2.2.2.1.2.2.2.1 (sw_in rfl) (v := .int 1000) rfl dX3_interpolated_29 ?_
  refine sw_i2l (pc := 30) (v := 1000) F dX3_interpolated_30 rfl ?_
  refine sw_lcmp_ge (pc := 31) (tgt := 106) F dX3_interpolated_31 dX3_interpolated_32 (by decide) (fun c_2 => ?_) (fun c_2 => ?_)
  · skip
    refine sw_aload_n (pc := 106) F dX3_interpolated_106 rfl 3 rfl ?_
    refine sw_iload (pc := 107) F dX3_interpolated_107 0 rfl ?_
    refine sw_iald (pc := 109) F 0 rfl (sw_in rfl) dX3_interpolated_109 ?_
    refine sw_nami (e := p 1) rfl (fun x_3 ex_3 => ?_)
    refine sw_i2l (pc := 110) F dX3_interpolated_110 rfl ?_
    refine sw_lstore (pc := 111) (lv' := [(4, .long x_3.toInt64), (6, .int 1), (0, .ref G.2.2.2), (1, .ref d0), (2, .long a)]) F T.1 dX3_interpolated_111 (by decide) rfl ?_
    refine sw_iinc (pc := 113) (v := 2) (lv' := [(6, .int 2), (4, .long x_3.toInt64), (0, .ref G.2.2.2), (1, .ref d0), (2, .long a)]) F T.1 dX3_interpolated_113 (q := 1) rfl rfl (by decide) rfl ?_
    refine sw_goto (pc := 116) (tgt := 6) F dX3_interpolated_116 (by decide) ?_
    refine sw_iload (pc := 6) F dX3_interpolated_6 0 rfl ?_
    refine sw_aload_n (pc := 8) F dX3_interpolated_8 rfl 2 rfl ?_
    refine sw_tblen (pc := 9) (v := 5) F F.2.2.2.2.2.2.2.2.1.2.2.2.1 rfl dX3_interpolated_9 ?_
    refine sw_icmp_ge (pc := 10) (tgt := 119) F dX3_interpolated_10 (by decide) (fun c => absurd c (by decide)) (fun _ => ?_)
    refine sw_iload (pc := 13) F dX3_interpolated_13 0 rfl ?_
    refine sw_aload_n (pc := 15) F dX3_interpolated_15 rfl 3 rfl ?_
    refine sw_alenI (pc := 16) (v := 5) F 0 rfl rfl dX3_interpolated_16 ?_
    refine sw_icmp_ge (pc := 17) (tgt := 119) F dX3_interpolated_17 (by decide) (fun c => absurd c (by decide)) (fun _ => ?_)
    refine sw_iload (pc := 20) F dX3_interpolated_20 0 rfl ?_
    refine sw_if_le (pc := 22) (tgt := 106) F dX3_interpolated_22 (by decide) (fun c => absurd c (by decide)) (fun _ => ?_)
    refine sw_lload_n (pc := 25) F dX3_interpolated_25 rfl 4 rfl ?_
    refine sw_aload_n (pc := 26) F dX3_interpolated_26 rfl 2 rfl ?_
    refine sw_iload (pc := 27) F dX3_interpolated_27 0 rfl ?_
    refine sw_tbld (pc := 29) F F.2.2.2.2.2.2.2.2.1.2.2.2.1 (sw_in rfl) (v := .int 3000) rfl dX3_interpolated_29 ?_
    refine sw_i2l (pc := 30) (v := 3000) F dX3_interpolated_30 rfl ?_
    refine sw_lcmp_ge (pc := 31) (tgt := 106) F dX3_interpolated_31 dX3_interpolated_32 (by decide) (fun c_4 => ?_) (fun c_4 => ?_)
    · skip
      refine sw_aload_n (pc := 106) F dX3_interpolated_106 rfl 3 rfl ?_
      refine sw_iload (pc := 107) F dX3_interpolated_107 0 rfl ?_
      refine sw_iald (pc := 109) F 0 rfl (sw_in rfl) dX3_interpolated_109 ?_
      refine sw_nami (e := p 2) rfl (fun x_5 ex_5 => ?_)
      refine sw_i2l (pc := 110) F dX3_interpolated_110 rfl ?_
      refine sw_lstore (pc := 111) (lv' := [(4, .long x_5.toInt64), (6, .int 2), (0, .ref G.2.2.2), (1, .ref d0), (2, .long a)]) F T.1 dX3_interpolated_111 (by decide) rfl ?_
      refine sw_iinc (pc := 113) (v := 3) (lv' := [(6, .int 3), (4, .long x_5.toInt64), (0, .ref G.2.2.2), (1, .ref d0), (2, .long a)]) F T.1 dX3_interpolated_113 (q := 1) rfl rfl (by decide) rfl ?_
      refine sw_goto (pc := 116) (tgt := 6) F dX3_interpolated_116 (by decide) ?_
      refine sw_iload (pc := 6) F dX3_interpolated_6 0 rfl ?_
      refine sw_aload_n (pc := 8) F dX3_interpolated_8 rfl 2 rfl ?_
      refine sw_tblen (pc := 9) (v := 5) F F.2.2.2.2.2.2.2.2.1.2.2.2.1 rfl dX3_interpolated_9 ?_
      refine sw_icmp_ge (pc := 10) (tgt := 119) F dX3_interpolated_10 (by decide) (fun c => absurd c (by decide)) (fun _ => ?_)
      refine sw_iload (pc := 13) F dX3_interpolated_13 0 rfl ?_
      refine sw_aload_n (pc := 15) F dX3_interpolated_15 rfl 3 rfl ?_
      refine sw_alenI (pc := 16) (v := 5) F 0 rfl rfl dX3_interpolated_16 ?_
      refine sw_icmp_ge (pc := 17) (tgt := 119) F dX3_interpolated_17 (by decide) (fun c => absurd c (by decide)) (fun _ => ?_)
      refine sw_iload (pc := 20) F dX3_interpolated_20 0 rfl ?_
      refine sw_if_le (pc := 22) (tgt := 106) F dX3_interpolated_22 (by decide) (fun c => absurd c (by decide)) (fun _ => ?_)
      refine sw_lload_n (pc := 25) F dX3_interpolated_25 rfl 4 rfl ?_
      refine sw_aload_n (pc := 26) F dX3_interpolated_26 rfl 2 rfl ?_
      refine sw_iload (pc := 27) F dX3_interpolated_27 0 rfl ?_
      refine sw_tbld (pc := 29) F F.2.2.2.2.2.2.2.2.1.2.2.2.1 (sw_in rfl) (v := .int 10000) rfl dX3_interpolated_29 ?_
      refine sw_i2l (pc := 30) (v := 10000) F dX3_interpolated_30 rfl ?_
      refine sw_lcmp_ge (pc := 31) (tgt := 106) F dX3_interpolated_31 dX3_interpolated_32 (by decide) (fun c_6 => ?_) (fun c_6 => ?_)
      · skip
        refine sw_aload_n (pc := 106) F dX3_interpolated_106 rfl 3 rfl ?_
        refine sw_iload (pc := 107) F dX3_interpolated_107 0 rfl ?_
        refine sw_iald (pc := 109) F 0 rfl (sw_in rfl) dX3_interpolated_109 ?_
        refine sw_nami (e := p 3) rfl (fun x_7 ex_7 => ?_)
        refine sw_i2l (pc := 110) F dX3_interpolated_110 rfl ?_
        refine sw_lstore (pc := 111) (lv' := [(4, .long x_7.toInt64), (6, .int 3), (0, .ref G.2.2.2), (1, .ref d0), (2, .long a)]) F T.1 dX3_interpolated_111 (by decide) rfl ?_
        refine sw_iinc (pc := 113) (v := 4) (lv' := [(6, .int 4), (4, .long x_7.toInt64), (0, .ref G.2.2.2), (1, .ref d0), (2, .long a)]) F T.1 dX3_interpolated_113 (q := 1) rfl rfl (by decide) rfl ?_
        refine sw_goto (pc := 116) (tgt := 6) F dX3_interpolated_116 (by decide) ?_
        refine sw_iload (pc := 6) F dX3_interpolated_6 0 rfl ?_
        refine sw_aload_n (pc := 8) F dX3_interpolated_8 rfl 2 rfl ?_
        refine sw_tblen (pc := 9) (v := 5) F F.2.2.2.2.2.2.2.2.1.2.2.2.1 rfl dX3_interpolated_9 ?_
        refine sw_icmp_ge (pc := 10) (tgt := 119) F dX3_interpolated_10 (by decide) (fun c => absurd c (by decide)) (fun _ => ?_)
        refine sw_iload (pc := 13) F dX3_interpolated_13 0 rfl ?_
        refine sw_aload_n (pc := 15) F dX3_interpolated_15 rfl 3 rfl ?_
        refine sw_alenI (pc := 16) (v := 5) F 0 rfl rfl dX3_interpolated_16 ?_
        refine sw_icmp_ge (pc := 17) (tgt := 119) F dX3_interpolated_17 (by decide) (fun c => absurd c (by decide)) (fun _ => ?_)
        refine sw_iload (pc := 20) F dX3_interpolated_20 0 rfl ?_
        refine sw_if_le (pc := 22) (tgt := 106) F dX3_interpolated_22 (by decide) (fun c => absurd c (by decide)) (fun _ => ?_)
        refine sw_lload_n (pc := 25) F dX3_interpolated_25 rfl 4 rfl ?_
        refine sw_aload_n (pc := 26) F dX3_interpolated_26 rfl 2 rfl ?_
        refine sw_iload (pc := 27) F dX3_interpolated_27 0 rfl ?_
        refine sw_tbld (pc := 29) F F.2.2.2.2.2.2.2.2.1.2.2.2.1 (sw_in rfl) (v := .int 30000) rfl dX3_interpolated_29 ?_
        refine sw_i2l (pc := 30) (v := 30000) F dX3_interpolated_30 rfl ?_
        refine sw_lcmp_ge (pc := 31) (tgt := 106) F dX3_interpolated_31 dX3_interpolated_32 (by decide) (fun c_8 => ?_) (fun c_8 => ?_)
        · skip
          refine sw_aload_n (pc := 106) F dX3_interpolated_106 rfl 3 rfl ?_
          refine sw_iload (pc := 107) F dX3_interpolated_107 0 rfl ?_
          refine sw_iald (pc := 109) F 0 rfl (sw_in rfl) dX3_interpolated_109 ?_
          refine sw_nami (e := p 4) rfl (fun x_9 ex_9 => ?_)
          refine sw_i2l (pc := 110) F dX3_interpolated_110 rfl ?_
          refine sw_lstore (pc := 111) (lv' := [(4, .long x_9.toInt64), (6, .int 4), (0, .ref G.2.2.2), (1, .ref d0), (2, .long a)]) F T.1 dX3_interpolated_111 (by decide) rfl ?_
          refine sw_iinc (pc := 113) (v := 5) (lv' := [(6, .int 5), (4, .long x_9.toInt64), (0, .ref G.2.2.2), (1, .ref d0), (2, .long a)]) F T.1 dX3_interpolated_113 (q := 1) rfl rfl (by decide) rfl ?_
          refine sw_goto (pc := 116) (tgt := 6) F dX3_interpolated_116 (by decide) ?_
          refine sw_iload (pc := 6) F dX3_interpolated_6 0 rfl ?_
          refine sw_aload_n (pc := 8) F dX3_interpolated_8 rfl 2 rfl ?_
          refine sw_tblen (pc := 9) (v := 5) F F.2.2.2.2.2.2.2.2.1.2.2.2.1 rfl dX3_interpolated_9 ?_
          refine sw_icmp_ge (pc := 10) (tgt := 119) F dX3_interpolated_10 (by decide) (fun _ => ?_) (fun c => absurd c (by decide))
          refine sw_lload (pc := 119) F dX3_interpolated_119 1 rfl ?_
          subst ex_9
          subst ex_7
          subst ex_5
          subst ex_3
          subst ex_1
          exact sw_lret (pc := 121) F T () (by unfold f_X3_interpolated_F_r; rw [if_pos c_2, if_pos c_4, if_pos c_6, if_pos c_8]) rfl dX3_interpolated_121
        · skip
          refine sw_aload_n (pc := 35) F dX3_interpolated_35 rfl 2 rfl ?_
          refine sw_iload (pc := 36) F dX3_interpolated_36 0 rfl ?_
          refine sw_iconst (pc := 38) (v := 1) F dX3_interpolated_38 rfl ?_
          refine sw_isub (pc := 39) F dX3_interpolated_39 ?_
          refine sw_eqt (v := .int 3) (by rfl) ?_
          refine sw_tbld (pc := 40) F F.2.2.2.2.2.2.2.2.1.2.2.2.1 (sw_in rfl) (v := .int 10000) rfl dX3_interpolated_40 ?_
          refine sw_aload_n (pc := 41) F dX3_interpolated_41 rfl 2 rfl ?_
          refine sw_iload (pc := 42) F dX3_interpolated_42 0 rfl ?_
          refine sw_tbld (pc := 44) F F.2.2.2.2.2.2.2.2.1.2.2.2.1 (sw_in rfl) (v := .int 30000) rfl dX3_interpolated_44 ?_
          refine sw_icmp_ge (pc := 45) (tgt := 106) F dX3_interpolated_45 (by decide) (fun c => absurd c (by decide)) (fun _ => ?_)
          refine sw_lconst (pc := 48) (v := 0) F dX3_interpolated_48 rfl ?_
          refine sw_lload_n (pc := 49) F dX3_interpolated_49 rfl 4 rfl ?_
          refine sw_aload_n (pc := 50) F dX3_interpolated_50 rfl 2 rfl ?_
          refine sw_iload (pc := 51) F dX3_interpolated_51 0 rfl ?_
          refine sw_iconst (pc := 53) (v := 1) F dX3_interpolated_53 rfl ?_
          refine sw_isub (pc := 54) F dX3_interpolated_54 ?_
          refine sw_eqt (v := .int 3) (by rfl) ?_
          refine sw_tbld (pc := 55) F F.2.2.2.2.2.2.2.2.1.2.2.2.1 (sw_in rfl) (v := .int 10000) rfl dX3_interpolated_55 ?_
          refine sw_i2l (pc := 56) (v := 10000) F dX3_interpolated_56 rfl ?_
          refine sw_lsub (pc := 57) F dX3_interpolated_57 ?_
          refine sw_topl (fun x_10 ex_10 => ?_)
          refine sw_maxL (pc := 58) (rm := ({ frames := 1, cells := 0, slots := 0, locals := 25 } : Room)) F T.2.1 (List.mem_of_getElem? (i := 1) rfl) (List.mem_of_getElem? (i := 2) rfl) (List.mem_of_getElem? (i := 3) rfl) (List.mem_of_getElem? (i := 4) rfl) (Nat.le_of_ble_eq_true rfl) (Nat.le_of_ble_eq_true rfl) (Nat.le_of_ble_eq_true rfl) (Nat.le_of_ble_eq_true rfl) dX3_interpolated_58 ?_
          refine sw_topl (fun x_11 ex_11 => ?_)
          refine sw_lstore (pc := 61) (lv' := [(7, .long x_11), (6, .int 4), (4, .long x_7.toInt64), (0, .ref G.2.2.2), (1, .ref d0), (2, .long a)]) F T.1 dX3_interpolated_61 (by decide) rfl ?_
          refine sw_aload_n (pc := 63) F dX3_interpolated_63 rfl 4 rfl ?_
          refine sw_iload (pc := 64) F dX3_interpolated_64 1 rfl ?_
          refine sw_iald (pc := 66) F 0 rfl (sw_in rfl) dX3_interpolated_66 ?_
          refine sw_nami (e := p 4) rfl (fun x_12 ex_12 => ?_)
          refine sw_aload_n (pc := 67) F dX3_interpolated_67 rfl 4 rfl ?_
          refine sw_iload (pc := 68) F dX3_interpolated_68 1 rfl ?_
          refine sw_iconst (pc := 70) (v := 1) F dX3_interpolated_70 rfl ?_
          refine sw_isub (pc := 71) F dX3_interpolated_71 ?_
          refine sw_eqt (v := .int 3) (by rfl) ?_
          refine sw_iald (pc := 72) F 0 rfl (sw_in rfl) dX3_interpolated_72 ?_
          refine sw_nami (e := p 3) rfl (fun x_13 ex_13 => ?_)
          refine sw_isub (pc := 73) F dX3_interpolated_73 ?_
          refine sw_topi (fun x_14 ex_14 => ?_)
          refine sw_i2l (pc := 74) F dX3_interpolated_74 rfl ?_
          refine sw_lstore (pc := 75) (lv' := [(9, .long x_14.toInt64), (7, .long x_11), (6, .int 4), (4, .long x_7.toInt64), (0, .ref G.2.2.2), (1, .ref d0), (2, .long a)]) F T.1 dX3_interpolated_75 (by decide) rfl ?_
          refine sw_aload_n (pc := 77) F dX3_interpolated_77 rfl 5 rfl ?_
          refine sw_iload (pc := 78) F dX3_interpolated_78 2 rfl ?_
          refine sw_iconst (pc := 80) (v := 1) F dX3_interpolated_80 rfl ?_
          refine sw_isub (pc := 81) F dX3_interpolated_81 ?_
          refine sw_eqt (v := .int 3) (by rfl) ?_
          refine sw_iald (pc := 82) F 0 rfl (sw_in rfl) dX3_interpolated_82 ?_
          refine sw_nami (e := p 3) rfl (fun x_15 ex_15 => ?_)
          refine sw_i2l (pc := 83) F dX3_interpolated_83 rfl ?_
          refine sw_lload (pc := 84) F dX3_interpolated_84 0 rfl ?_
          refine sw_lload (pc := 86) F dX3_interpolated_86 1 rfl ?_
          refine sw_lmul (pc := 88) F dX3_interpolated_88 ?_
          refine sw_topl (fun x_16 ex_16 => ?_)
          refine sw_aload_n (pc := 89) F dX3_interpolated_89 rfl 4 rfl ?_
          refine sw_iload (pc := 90) F dX3_interpolated_90 2 rfl ?_
          refine sw_tbld (pc := 92) F F.2.2.2.2.2.2.2.2.1.2.2.2.1 (sw_in rfl) (v := .int 30000) rfl dX3_interpolated_92 ?_
          refine sw_aload_n (pc := 93) F dX3_interpolated_93 rfl 4 rfl ?_
          refine sw_iload (pc := 94) F dX3_interpolated_94 2 rfl ?_
          refine sw_iconst (pc := 96) (v := 1) F dX3_interpolated_96 rfl ?_
          refine sw_isub (pc := 97) F dX3_interpolated_97 ?_
          refine sw_eqt (v := .int 3) (by rfl) ?_
          refine sw_tbld (pc := 98) F F.2.2.2.2.2.2.2.2.1.2.2.2.1 (sw_in rfl) (v := .int 10000) rfl dX3_interpolated_98 ?_
          refine sw_isub (pc := 99) F dX3_interpolated_99 ?_
          refine sw_eqt (v := .int 20000) (by rfl) ?_
          refine sw_i2l (pc := 100) (v := 20000) F dX3_interpolated_100 rfl ?_
          refine sw_calll (pc := 101) (wr := [(d0, .inl (G.2.1.1, 5, .inl p))]) (k' := 0) (n' := 0) F (sw_runS (R := ({ frames := 1, cells := 0, slots := 0, locals := 25 } : Room)) (na := 2) F T.2.1 T.2.2.1 (k_J9_floorDiv_f86c9 l G x_16 20000 (by decide)) [] rfl (by decide) gX3_interpolated_J9_floorDiv_f86c9 rfl rfl rfl (by decide +kernel) ⟨Nat.le_of_ble_eq_true rfl, Nat.le_of_ble_eq_true rfl⟩ rfl rfl (Nat.le_of_ble_eq_true rfl) dX3_interpolated_101 (Nat.le_of_ble_eq_true rfl) (Nat.le_of_ble_eq_true rfl)) [] [0] rfl rfl (by decide) (by decide) rfl rfl (fun r_17 u_18 h_19 => ?_)
          have e_20 : r_17 = f_J9_floorDiv_f86c9_r x_16 20000 := h_19
          refine sw_eq (ws' := [(d0, .inl (G.2.1.1, 5, .inl p))]) (lv' := [(9, .long x_14.toInt64), (7, .long x_11), (6, .int 4), (4, .long x_7.toInt64), (0, .ref G.2.2.2), (1, .ref d0), (2, .long a)]) (st' := [.long r_17, .long x_15.toInt64]) rfl rfl rfl ?_
          refine sw_ladd (pc := 104) F dX3_interpolated_104 ?_
          refine sw_topl (fun x_21 ex_21 => ?_)
          subst ex_21
          subst e_20
          subst ex_16
          subst ex_15
          subst ex_14
          subst ex_13
          subst ex_12
          subst ex_11
          subst ex_10
          subst ex_7
          subst ex_5
          subst ex_3
          subst ex_1
          exact sw_lret (pc := 105) F T () (by unfold f_X3_interpolated_F_r; rw [if_pos c_2, if_pos c_4, if_pos c_6, if_neg c_8]) rfl dX3_interpolated_105
      · skip
        refine sw_aload_n (pc := 35) F dX3_interpolated_35 rfl 2 rfl ?_
        refine sw_iload (pc := 36) F dX3_interpolated_36 0 rfl ?_
        refine sw_iconst (pc := 38) (v := 1) F dX3_interpolated_38 rfl ?_
        refine sw_isub (pc := 39) F dX3_interpolated_39 ?_
        refine sw_eqt (v := .int 2) (by rfl) ?_
        refine sw_tbld (pc := 40) F F.2.2.2.2.2.2.2.2.1.2.2.2.1 (sw_in rfl) (v := .int 3000) rfl dX3_interpolated_40 ?_
        refine sw_aload_n (pc := 41) F dX3_interpolated_41 rfl 2 rfl ?_
        refine sw_iload (pc := 42) F dX3_interpolated_42 0 rfl ?_
        refine sw_tbld (pc := 44) F F.2.2.2.2.2.2.2.2.1.2.2.2.1 (sw_in rfl) (v := .int 10000) rfl dX3_interpolated_44 ?_
        refine sw_icmp_ge (pc := 45) (tgt := 106) F dX3_interpolated_45 (by decide) (fun c => absurd c (by decide)) (fun _ => ?_)
        refine sw_lconst (pc := 48) (v := 0) F dX3_interpolated_48 rfl ?_
        refine sw_lload_n (pc := 49) F dX3_interpolated_49 rfl 4 rfl ?_
        refine sw_aload_n (pc := 50) F dX3_interpolated_50 rfl 2 rfl ?_
        refine sw_iload (pc := 51) F dX3_interpolated_51 0 rfl ?_
        refine sw_iconst (pc := 53) (v := 1) F dX3_interpolated_53 rfl ?_
        refine sw_isub (pc := 54) F dX3_interpolated_54 ?_
        refine sw_eqt (v := .int 2) (by rfl) ?_
        refine sw_tbld (pc := 55) F F.2.2.2.2.2.2.2.2.1.2.2.2.1 (sw_in rfl) (v := .int 3000) rfl dX3_interpolated_55 ?_
        refine sw_i2l (pc := 56) (v := 3000) F dX3_interpolated_56 rfl ?_
        refine sw_lsub (pc := 57) F dX3_interpolated_57 ?_
        refine sw_topl (fun x_22 ex_22 => ?_)
        refine sw_maxL (pc := 58) (rm := ({ frames := 1, cells := 0, slots := 0, locals := 25 } : Room)) F T.2.1 (List.mem_of_getElem? (i := 1) rfl) (List.mem_of_getElem? (i := 2) rfl) (List.mem_of_getElem? (i := 3) rfl) (List.mem_of_getElem? (i := 4) rfl) (Nat.le_of_ble_eq_true rfl) (Nat.le_of_ble_eq_true rfl) (Nat.le_of_ble_eq_true rfl) (Nat.le_of_ble_eq_true rfl) dX3_interpolated_58 ?_
        refine sw_topl (fun x_23 ex_23 => ?_)
        refine sw_lstore (pc := 61) (lv' := [(7, .long x_23), (6, .int 3), (4, .long x_5.toInt64), (0, .ref G.2.2.2), (1, .ref d0), (2, .long a)]) F T.1 dX3_interpolated_61 (by decide) rfl ?_
        refine sw_aload_n (pc := 63) F dX3_interpolated_63 rfl 4 rfl ?_
        refine sw_iload (pc := 64) F dX3_interpolated_64 1 rfl ?_
        refine sw_iald (pc := 66) F 0 rfl (sw_in rfl) dX3_interpolated_66 ?_
        refine sw_nami (e := p 3) rfl (fun x_24 ex_24 => ?_)
        refine sw_aload_n (pc := 67) F dX3_interpolated_67 rfl 4 rfl ?_
        refine sw_iload (pc := 68) F dX3_interpolated_68 1 rfl ?_
        refine sw_iconst (pc := 70) (v := 1) F dX3_interpolated_70 rfl ?_
        refine sw_isub (pc := 71) F dX3_interpolated_71 ?_
        refine sw_eqt (v := .int 2) (by rfl) ?_
        refine sw_iald (pc := 72) F 0 rfl (sw_in rfl) dX3_interpolated_72 ?_
        refine sw_nami (e := p 2) rfl (fun x_25 ex_25 => ?_)
        refine sw_isub (pc := 73) F dX3_interpolated_73 ?_
        refine sw_topi (fun x_26 ex_26 => ?_)
        refine sw_i2l (pc := 74) F dX3_interpolated_74 rfl ?_
        refine sw_lstore (pc := 75) (lv' := [(9, .long x_26.toInt64), (7, .long x_23), (6, .int 3), (4, .long x_5.toInt64), (0, .ref G.2.2.2), (1, .ref d0), (2, .long a)]) F T.1 dX3_interpolated_75 (by decide) rfl ?_
        refine sw_aload_n (pc := 77) F dX3_interpolated_77 rfl 5 rfl ?_
        refine sw_iload (pc := 78) F dX3_interpolated_78 2 rfl ?_
        refine sw_iconst (pc := 80) (v := 1) F dX3_interpolated_80 rfl ?_
        refine sw_isub (pc := 81) F dX3_interpolated_81 ?_
        refine sw_eqt (v := .int 2) (by rfl) ?_
        refine sw_iald (pc := 82) F 0 rfl (sw_in rfl) dX3_interpolated_82 ?_
        refine sw_nami (e := p 2) rfl (fun x_27 ex_27 => ?_)
        refine sw_i2l (pc := 83) F dX3_interpolated_83 rfl ?_
        refine sw_lload (pc := 84) F dX3_interpolated_84 0 rfl ?_
        refine sw_lload (pc := 86) F dX3_interpolated_86 1 rfl ?_
        refine sw_lmul (pc := 88) F dX3_interpolated_88 ?_
        refine sw_topl (fun x_28 ex_28 => ?_)
        refine sw_aload_n (pc := 89) F dX3_interpolated_89 rfl 4 rfl ?_
        refine sw_iload (pc := 90) F dX3_interpolated_90 2 rfl ?_
        refine sw_tbld (pc := 92) F F.2.2.2.2.2.2.2.2.1.2.2.2.1 (sw_in rfl) (v := .int 10000) rfl dX3_interpolated_92 ?_
        refine sw_aload_n (pc := 93) F dX3_interpolated_93 rfl 4 rfl ?_
        refine sw_iload (pc := 94) F dX3_interpolated_94 2 rfl ?_
        refine sw_iconst (pc := 96) (v := 1) F dX3_interpolated_96 rfl ?_
        refine sw_isub (pc := 97) F dX3_interpolated_97 ?_
        refine sw_eqt (v := .int 2) (by rfl) ?_
        refine sw_tbld (pc := 98) F F.2.2.2.2.2.2.2.2.1.2.2.2.1 (sw_in rfl) (v := .int 3000) rfl dX3_interpolated_98 ?_
        refine sw_isub (pc := 99) F dX3_interpolated_99 ?_
        refine sw_eqt (v := .int 7000) (by rfl) ?_
        refine sw_i2l (pc := 100) (v := 7000) F dX3_interpolated_100 rfl ?_
        refine sw_calll (pc := 101) (wr := [(d0, .inl (G.2.1.1, 5, .inl p))]) (k' := 0) (n' := 0) F (sw_runS (R := ({ frames := 1, cells := 0, slots := 0, locals := 25 } : Room)) (na := 2) F T.2.1 T.2.2.1 (k_J9_floorDiv_f86c9 l G x_28 7000 (by decide)) [] rfl (by decide) gX3_interpolated_J9_floorDiv_f86c9 rfl rfl rfl (by decide +kernel) ⟨Nat.le_of_ble_eq_true rfl, Nat.le_of_ble_eq_true rfl⟩ rfl rfl (Nat.le_of_ble_eq_true rfl) dX3_interpolated_101 (Nat.le_of_ble_eq_true rfl) (Nat.le_of_ble_eq_true rfl)) [] [0] rfl rfl (by decide) (by decide) rfl rfl (fun r_29 u_30 h_31 => ?_)
        have e_32 : r_29 = f_J9_floorDiv_f86c9_r x_28 7000 := h_31
        refine sw_eq (ws' := [(d0, .inl (G.2.1.1, 5, .inl p))]) (lv' := [(9, .long x_26.toInt64), (7, .long x_23), (6, .int 3), (4, .long x_5.toInt64), (0, .ref G.2.2.2), (1, .ref d0), (2, .long a)]) (st' := [.long r_29, .long x_27.toInt64]) rfl rfl rfl ?_
        refine sw_ladd (pc := 104) F dX3_interpolated_104 ?_
        refine sw_topl (fun x_33 ex_33 => ?_)
        subst ex_33
        subst e_32
        subst ex_28
        subst ex_27
        subst ex_26
        subst ex_25
        subst ex_24
        subst ex_23
        subst ex_22
        subst ex_5
        subst ex_3
        subst ex_1
        exact sw_lret (pc := 105) F T () (by unfold f_X3_interpolated_F_r; rw [if_pos c_2, if_pos c_4, if_neg c_6]) rfl dX3_interpolated_105
    · skip
      refine sw_aload_n (pc := 35) F dX3_interpolated_35 rfl 2 rfl ?_
      refine sw_iload (pc := 36) F dX3_interpolated_36 0 rfl ?_
      refine sw_iconst (pc := 38) (v := 1) F dX3_interpolated_38 rfl ?_
      refine sw_isub (pc := 39) F dX3_interpolated_39 ?_
      refine sw_eqt (v := .int 1) (by rfl) ?_
      refine sw_tbld (pc := 40) F F.2.2.2.2.2.2.2.2.1.2.2.2.1 (sw_in rfl) (v := .int 1000) rfl dX3_interpolated_40 ?_
      refine sw_aload_n (pc := 41) F dX3_interpolated_41 rfl 2 rfl ?_
      refine sw_iload (pc := 42) F dX3_interpolated_42 0 rfl ?_
      refine sw_tbld (pc := 44) F F.2.2.2.2.2.2.2.2.1.2.2.2.1 (sw_in rfl) (v := .int 3000) rfl dX3_interpolated_44 ?_
      refine sw_icmp_ge (pc := 45) (tgt := 106) F dX3_interpolated_45 (by decide) (fun c => absurd c (by decide)) (fun _ => ?_)
      refine sw_lconst (pc := 48) (v := 0) F dX3_interpolated_48 rfl ?_
      refine sw_lload_n (pc := 49) F dX3_interpolated_49 rfl 4 rfl ?_
      refine sw_aload_n (pc := 50) F dX3_interpolated_50 rfl 2 rfl ?_
      refine sw_iload (pc := 51) F dX3_interpolated_51 0 rfl ?_
      refine sw_iconst (pc := 53) (v := 1) F dX3_interpolated_53 rfl ?_
      refine sw_isub (pc := 54) F dX3_interpolated_54 ?_
      refine sw_eqt (v := .int 1) (by rfl) ?_
      refine sw_tbld (pc := 55) F F.2.2.2.2.2.2.2.2.1.2.2.2.1 (sw_in rfl) (v := .int 1000) rfl dX3_interpolated_55 ?_
      refine sw_i2l (pc := 56) (v := 1000) F dX3_interpolated_56 rfl ?_
      refine sw_lsub (pc := 57) F dX3_interpolated_57 ?_
      refine sw_topl (fun x_34 ex_34 => ?_)
      refine sw_maxL (pc := 58) (rm := ({ frames := 1, cells := 0, slots := 0, locals := 25 } : Room)) F T.2.1 (List.mem_of_getElem? (i := 1) rfl) (List.mem_of_getElem? (i := 2) rfl) (List.mem_of_getElem? (i := 3) rfl) (List.mem_of_getElem? (i := 4) rfl) (Nat.le_of_ble_eq_true rfl) (Nat.le_of_ble_eq_true rfl) (Nat.le_of_ble_eq_true rfl) (Nat.le_of_ble_eq_true rfl) dX3_interpolated_58 ?_
      refine sw_topl (fun x_35 ex_35 => ?_)
      refine sw_lstore (pc := 61) (lv' := [(7, .long x_35), (6, .int 2), (4, .long x_3.toInt64), (0, .ref G.2.2.2), (1, .ref d0), (2, .long a)]) F T.1 dX3_interpolated_61 (by decide) rfl ?_
      refine sw_aload_n (pc := 63) F dX3_interpolated_63 rfl 4 rfl ?_
      refine sw_iload (pc := 64) F dX3_interpolated_64 1 rfl ?_
      refine sw_iald (pc := 66) F 0 rfl (sw_in rfl) dX3_interpolated_66 ?_
      refine sw_nami (e := p 2) rfl (fun x_36 ex_36 => ?_)
      refine sw_aload_n (pc := 67) F dX3_interpolated_67 rfl 4 rfl ?_
      refine sw_iload (pc := 68) F dX3_interpolated_68 1 rfl ?_
      refine sw_iconst (pc := 70) (v := 1) F dX3_interpolated_70 rfl ?_
      refine sw_isub (pc := 71) F dX3_interpolated_71 ?_
      refine sw_eqt (v := .int 1) (by rfl) ?_
      refine sw_iald (pc := 72) F 0 rfl (sw_in rfl) dX3_interpolated_72 ?_
      refine sw_nami (e := p 1) rfl (fun x_37 ex_37 => ?_)
      refine sw_isub (pc := 73) F dX3_interpolated_73 ?_
      refine sw_topi (fun x_38 ex_38 => ?_)
      refine sw_i2l (pc := 74) F dX3_interpolated_74 rfl ?_
      refine sw_lstore (pc := 75) (lv' := [(9, .long x_38.toInt64), (7, .long x_35), (6, .int 2), (4, .long x_3.toInt64), (0, .ref G.2.2.2), (1, .ref d0), (2, .long a)]) F T.1 dX3_interpolated_75 (by decide) rfl ?_
      refine sw_aload_n (pc := 77) F dX3_interpolated_77 rfl 5 rfl ?_
      refine sw_iload (pc := 78) F dX3_interpolated_78 2 rfl ?_
      refine sw_iconst (pc := 80) (v := 1) F dX3_interpolated_80 rfl ?_
      refine sw_isub (pc := 81) F dX3_interpolated_81 ?_
      refine sw_eqt (v := .int 1) (by rfl) ?_
      refine sw_iald (pc := 82) F 0 rfl (sw_in rfl) dX3_interpolated_82 ?_
      refine sw_nami (e := p 1) rfl (fun x_39 ex_39 => ?_)
      refine sw_i2l (pc := 83) F dX3_interpolated_83 rfl ?_
      refine sw_lload (pc := 84) F dX3_interpolated_84 0 rfl ?_
      refine sw_lload (pc := 86) F dX3_interpolated_86 1 rfl ?_
      refine sw_lmul (pc := 88) F dX3_interpolated_88 ?_
      refine sw_topl (fun x_40 ex_40 => ?_)
      refine sw_aload_n (pc := 89) F dX3_interpolated_89 rfl 4 rfl ?_
      refine sw_iload (pc := 90) F dX3_interpolated_90 2 rfl ?_
      refine sw_tbld (pc := 92) F F.2.2.2.2.2.2.2.2.1.2.2.2.1 (sw_in rfl) (v := .int 3000) rfl dX3_interpolated_92 ?_
      refine sw_aload_n (pc := 93) F dX3_interpolated_93 rfl 4 rfl ?_
      refine sw_iload (pc := 94) F dX3_interpolated_94 2 rfl ?_
      refine sw_iconst (pc := 96) (v := 1) F dX3_interpolated_96 rfl ?_
      refine sw_isub (pc := 97) F dX3_interpolated_97 ?_
      refine sw_eqt (v := .int 1) (by rfl) ?_
      refine sw_tbld (pc := 98) F F.2.2.2.2.2.2.2.2.1.2.2.2.1 (sw_in rfl) (v := .int 1000) rfl dX3_interpolated_98 ?_
      refine sw_isub (pc := 99) F dX3_interpolated_99 ?_
      refine sw_eqt (v := .int 2000) (by rfl) ?_
      refine sw_i2l (pc := 100) (v := 2000) F dX3_interpolated_100 rfl ?_
      refine sw_calll (pc := 101) (wr := [(d0, .inl (G.2.1.1, 5, .inl p))]) (k' := 0) (n' := 0) F (sw_runS (R := ({ frames := 1, cells := 0, slots := 0, locals := 25 } : Room)) (na := 2) F T.2.1 T.2.2.1 (k_J9_floorDiv_f86c9 l G x_40 2000 (by decide)) [] rfl (by decide) gX3_interpolated_J9_floorDiv_f86c9 rfl rfl rfl (by decide +kernel) ⟨Nat.le_of_ble_eq_true rfl, Nat.le_of_ble_eq_true rfl⟩ rfl rfl (Nat.le_of_ble_eq_true rfl) dX3_interpolated_101 (Nat.le_of_ble_eq_true rfl) (Nat.le_of_ble_eq_true rfl)) [] [0] rfl rfl (by decide) (by decide) rfl rfl (fun r_41 u_42 h_43 => ?_)
      have e_44 : r_41 = f_J9_floorDiv_f86c9_r x_40 2000 := h_43
      refine sw_eq (ws' := [(d0, .inl (G.2.1.1, 5, .inl p))]) (lv' := [(9, .long x_38.toInt64), (7, .long x_35), (6, .int 2), (4, .long x_3.toInt64), (0, .ref G.2.2.2), (1, .ref d0), (2, .long a)]) (st' := [.long r_41, .long x_39.toInt64]) rfl rfl rfl ?_
      refine sw_ladd (pc := 104) F dX3_interpolated_104 ?_
      refine sw_topl (fun x_45 ex_45 => ?_)
      subst ex_45
      subst e_44
      subst ex_40
      subst ex_39
      subst ex_38
      subst ex_37
      subst ex_36
      subst ex_35
      subst ex_34
      subst ex_3
      subst ex_1
      exact sw_lret (pc := 105) F T () (by unfold f_X3_interpolated_F_r; rw [if_pos c_2, if_neg c_4]) rfl dX3_interpolated_105
  · skip
    refine sw_aload_n (pc := 35) F dX3_interpolated_35 rfl 2 rfl ?_
    refine sw_iload (pc := 36) F dX3_interpolated_36 0 rfl ?_
    refine sw_iconst (pc := 38) (v := 1) F dX3_interpolated_38 rfl ?_
    refine sw_isub (pc := 39) F dX3_interpolated_39 ?_
    refine sw_eqt (v := .int 0) (by rfl) ?_
    refine sw_tbld (pc := 40) F F.2.2.2.2.2.2.2.2.1.2.2.2.1 (sw_in rfl) (v := .int 0) rfl dX3_interpolated_40 ?_
    refine sw_aload_n (pc := 41) F dX3_interpolated_41 rfl 2 rfl ?_
    refine sw_iload (pc := 42) F dX3_interpolated_42 0 rfl ?_
    refine sw_tbld (pc := 44) F F.2.2.2.2.2.2.2.2.1.2.2.2.1 (sw_in rfl) (v := .int 1000) rfl dX3_interpolated_44 ?_
    refine sw_icmp_ge (pc := 45) (tgt := 106) F dX3_interpolated_45 (by decide) (fun c => absurd c (by decide)) (fun _ => ?_)
    refine sw_lconst (pc := 48) (v := 0) F dX3_interpolated_48 rfl ?_
    refine sw_lload_n (pc := 49) F dX3_interpolated_49 rfl 4 rfl ?_
    refine sw_aload_n (pc := 50) F dX3_interpolated_50 rfl 2 rfl ?_
    refine sw_iload (pc := 51) F dX3_interpolated_51 0 rfl ?_
    refine sw_iconst (pc := 53) (v := 1) F dX3_interpolated_53 rfl ?_
    refine sw_isub (pc := 54) F dX3_interpolated_54 ?_
    refine sw_eqt (v := .int 0) (by rfl) ?_
    refine sw_tbld (pc := 55) F F.2.2.2.2.2.2.2.2.1.2.2.2.1 (sw_in rfl) (v := .int 0) rfl dX3_interpolated_55 ?_
    refine sw_i2l (pc := 56) (v := 0) F dX3_interpolated_56 rfl ?_
    refine sw_lsub (pc := 57) F dX3_interpolated_57 ?_
    refine sw_topl (fun x_46 ex_46 => ?_)
    refine sw_maxL (pc := 58) (rm := ({ frames := 1, cells := 0, slots := 0, locals := 25 } : Room)) F T.2.1 (List.mem_of_getElem? (i := 1) rfl) (List.mem_of_getElem? (i := 2) rfl) (List.mem_of_getElem? (i := 3) rfl) (List.mem_of_getElem? (i := 4) rfl) (Nat.le_of_ble_eq_true rfl) (Nat.le_of_ble_eq_true rfl) (Nat.le_of_ble_eq_true rfl) (Nat.le_of_ble_eq_true rfl) dX3_interpolated_58 ?_
    refine sw_topl (fun x_47 ex_47 => ?_)
    refine sw_lstore (pc := 61) (lv' := [(7, .long x_47), (6, .int 1), (4, .long x_1.toInt64), (0, .ref G.2.2.2), (1, .ref d0), (2, .long a)]) F T.1 dX3_interpolated_61 (by decide) rfl ?_
    refine sw_aload_n (pc := 63) F dX3_interpolated_63 rfl 4 rfl ?_
    refine sw_iload (pc := 64) F dX3_interpolated_64 1 rfl ?_
    refine sw_iald (pc := 66) F 0 rfl (sw_in rfl) dX3_interpolated_66 ?_
    refine sw_nami (e := p 1) rfl (fun x_48 ex_48 => ?_)
    refine sw_aload_n (pc := 67) F dX3_interpolated_67 rfl 4 rfl ?_
    refine sw_iload (pc := 68) F dX3_interpolated_68 1 rfl ?_
    refine sw_iconst (pc := 70) (v := 1) F dX3_interpolated_70 rfl ?_
    refine sw_isub (pc := 71) F dX3_interpolated_71 ?_
    refine sw_eqt (v := .int 0) (by rfl) ?_
    refine sw_iald (pc := 72) F 0 rfl (sw_in rfl) dX3_interpolated_72 ?_
    refine sw_nami (e := p 0) rfl (fun x_49 ex_49 => ?_)
    refine sw_isub (pc := 73) F dX3_interpolated_73 ?_
    refine sw_topi (fun x_50 ex_50 => ?_)
    refine sw_i2l (pc := 74) F dX3_interpolated_74 rfl ?_
    refine sw_lstore (pc := 75) (lv' := [(9, .long x_50.toInt64), (7, .long x_47), (6, .int 1), (4, .long x_1.toInt64), (0, .ref G.2.2.2), (1, .ref d0), (2, .long a)]) F T.1 dX3_interpolated_75 (by decide) rfl ?_
    refine sw_aload_n (pc := 77) F dX3_interpolated_77 rfl 5 rfl ?_
    refine sw_iload (pc := 78) F dX3_interpolated_78 2 rfl ?_
    refine sw_iconst (pc := 80) (v := 1) F dX3_interpolated_80 rfl ?_
    refine sw_isub (pc := 81) F dX3_interpolated_81 ?_
    refine sw_eqt (v := .int 0) (by rfl) ?_
    refine sw_iald (pc := 82) F 0 rfl (sw_in rfl) dX3_interpolated_82 ?_
    refine sw_nami (e := p 0) rfl (fun x_51 ex_51 => ?_)
    refine sw_i2l (pc := 83) F dX3_interpolated_83 rfl ?_
    refine sw_lload (pc := 84) F dX3_interpolated_84 0 rfl ?_
    refine sw_lload (pc := 86) F dX3_interpolated_86 1 rfl ?_
    refine sw_lmul (pc := 88) F dX3_interpolated_88 ?_
    refine sw_topl (fun x_52 ex_52 => ?_)
    refine sw_aload_n (pc := 89) F dX3_interpolated_89 rfl 4 rfl ?_
    refine sw_iload (pc := 90) F dX3_interpolated_90 2 rfl ?_
    refine sw_tbld (pc := 92) F F.2.2.2.2.2.2.2.2.1.2.2.2.1 (sw_in rfl) (v := .int 1000) rfl dX3_interpolated_92 ?_
    refine sw_aload_n (pc := 93) F dX3_interpolated_93 rfl 4 rfl ?_
    refine sw_iload (pc := 94) F dX3_interpolated_94 2 rfl ?_
    refine sw_iconst (pc := 96) (v := 1) F dX3_interpolated_96 rfl ?_
    refine sw_isub (pc := 97) F dX3_interpolated_97 ?_
    refine sw_eqt (v := .int 0) (by rfl) ?_
    refine sw_tbld (pc := 98) F F.2.2.2.2.2.2.2.2.1.2.2.2.1 (sw_in rfl) (v := .int 0) rfl dX3_interpolated_98 ?_
    refine sw_isub (pc := 99) F dX3_interpolated_99 ?_
    refine sw_eqt (v := .int 1000) (by rfl) ?_
    refine sw_i2l (pc := 100) (v := 1000) F dX3_interpolated_100 rfl ?_
    refine sw_calll (pc := 101) (wr := [(d0, .inl (G.2.1.1, 5, .inl p))]) (k' := 0) (n' := 0) F (sw_runS (R := ({ frames := 1, cells := 0, slots := 0, locals := 25 } : Room)) (na := 2) F T.2.1 T.2.2.1 (k_J9_floorDiv_f86c9 l G x_52 1000 (by decide)) [] rfl (by decide) gX3_interpolated_J9_floorDiv_f86c9 rfl rfl rfl (by decide +kernel) ⟨Nat.le_of_ble_eq_true rfl, Nat.le_of_ble_eq_true rfl⟩ rfl rfl (Nat.le_of_ble_eq_true rfl) dX3_interpolated_101 (Nat.le_of_ble_eq_true rfl) (Nat.le_of_ble_eq_true rfl)) [] [0] rfl rfl (by decide) (by decide) rfl rfl (fun r_53 u_54 h_55 => ?_)
    have e_56 : r_53 = f_J9_floorDiv_f86c9_r x_52 1000 := h_55
    refine sw_eq (ws' := [(d0, .inl (G.2.1.1, 5, .inl p))]) (lv' := [(9, .long x_50.toInt64), (7, .long x_47), (6, .int 1), (4, .long x_1.toInt64), (0, .ref G.2.2.2), (1, .ref d0), (2, .long a)]) (st' := [.long r_53, .long x_51.toInt64]) rfl rfl rfl ?_
    refine sw_ladd (pc := 104) F dX3_interpolated_104 ?_
    refine sw_topl (fun x_57 ex_57 => ?_)
    subst ex_57
    subst e_56
    subst ex_52
    subst ex_51
    subst ex_50
    subst ex_49
    subst ex_48
    subst ex_47
    subst ex_46
    subst ex_1
    exact sw_lret (pc := 105) F T () (by unfold f_X3_interpolated_F_r; rw [if_neg c_2]) rfl dX3_interpolated_105
def f_X3_expansion_r (a : Int32) (b : Int32) : Int32 := (if (700 : Int32) < (1000 - (f_J9_floorDiv_7cf53_r (300 * a) (100 * (if (1 : Int32) < b then b else (1 : Int32))))) then (1000 - (f_J9_floorDiv_7cf53_r (300 * a) (100 * (if (1 : Int32) < b then b else (1 : Int32))))) else (700 : Int32))
set_option maxHeartbeats 4000000 in
set_option maxRecDepth 100000 in
theorem k_X3_expansion (l : Launch) (G : sw_E) (a : Int32) (b : Int32) (hy : ¬ (100 * (if (1 : Int32) < b then b else 1)) = 0) : sw_M l G yX3_expansion wsX3_expansion ({ frames := 1, cells := 0, slots := 0, locals := 22 } : Room) [.int a, .int b] [] (sw_QI G (S := Unit) (fun (r : Int32) (_ : Unit) => r = f_X3_expansion_r a b) (fun _ => [])) 0 0 := by
  refine sw_start (cc := cX3_expansion) (maxL := 2) (ret := some .int) (lv := [(0, .int a), (1, .int b)]) (own := RX3) (nm := "expansion") (by decide +kernel) rfl rfl rfl rfl (Nat.le_of_ble_eq_true rfl) (fun C F T => ?_)
  refine sw_sipush (pc := 0) (v := 700) F dX3_expansion_0 rfl ?_
  refine sw_sipush (pc := 3) (v := 1000) F dX3_expansion_3 rfl ?_
  refine sw_sipush (pc := 6) (v := 300) F dX3_expansion_6 rfl ?_
  refine sw_iload_n (pc := 9) F dX3_expansion_9 rfl 0 rfl ?_
  refine sw_imul (pc := 10) F dX3_expansion_10 ?_
  refine sw_topi (fun x_1 ex_1 => ?_)
  refine sw_bipush (pc := 11) (v := 100) F dX3_expansion_11 rfl ?_
  refine sw_iconst (pc := 13) (v := 1) F dX3_expansion_13 rfl ?_
  refine sw_iload_n (pc := 14) F dX3_expansion_14 rfl 1 rfl ?_
  refine sw_max (pc := 15) (rm := ({ frames := 1, cells := 0, slots := 0, locals := 22 } : Room)) F T.2.1 (List.mem_of_getElem? (i := 1) rfl) (List.mem_of_getElem? (i := 2) rfl) (List.mem_of_getElem? (i := 3) rfl) (List.mem_of_getElem? (i := 4) rfl) (Nat.le_of_ble_eq_true rfl) (Nat.le_of_ble_eq_true rfl) (Nat.le_of_ble_eq_true rfl) (Nat.le_of_ble_eq_true rfl) dX3_expansion_15 ?_
  refine sw_topi (fun x_2 ex_2 => ?_)
  refine sw_imul (pc := 18) F dX3_expansion_18 ?_
  refine sw_topi (fun x_3 ex_3 => ?_)
  refine sw_calli (pc := 19) (wr := []) (k' := 0) (n' := 0) F (sw_runS (R := ({ frames := 1, cells := 0, slots := 0, locals := 22 } : Room)) (na := 2) F T.2.1 T.2.2.1 (k_J9_floorDiv_7cf53 l G x_1 x_3 (by subst_vars; exact hy)) [] rfl (by decide) gX3_expansion_J9_floorDiv_7cf53 rfl rfl rfl (by decide +kernel) ⟨Nat.le_of_ble_eq_true rfl, Nat.le_of_ble_eq_true rfl⟩ rfl rfl (Nat.le_of_ble_eq_true rfl) dX3_expansion_19 (Nat.le_of_ble_eq_true rfl) (Nat.le_of_ble_eq_true rfl)) [] [] rfl rfl (by decide) (by decide) rfl rfl (fun r_4 u_5 h_6 => ?_)
  have e_7 : r_4 = f_J9_floorDiv_7cf53_r x_1 x_3 := h_6
  refine sw_eq (ws' := []) (lv' := [(0, .int a), (1, .int b)]) (st' := [.int r_4, .int 1000, .int 700]) rfl rfl rfl ?_
  refine sw_isub (pc := 22) F dX3_expansion_22 ?_
  refine sw_topi (fun x_8 ex_8 => ?_)
  refine sw_max (pc := 23) (rm := ({ frames := 1, cells := 0, slots := 0, locals := 22 } : Room)) F T.2.1 (List.mem_of_getElem? (i := 1) rfl) (List.mem_of_getElem? (i := 2) rfl) (List.mem_of_getElem? (i := 3) rfl) (List.mem_of_getElem? (i := 4) rfl) (Nat.le_of_ble_eq_true rfl) (Nat.le_of_ble_eq_true rfl) (Nat.le_of_ble_eq_true rfl) (Nat.le_of_ble_eq_true rfl) dX3_expansion_23 ?_
  refine sw_topi (fun x_9 ex_9 => ?_)
  subst ex_9
  subst ex_8
  subst e_7
  subst ex_3
  subst ex_2
  subst ex_1
  exact sw_iret (pc := 26) F T rfl rfl () rfl rfl dX3_expansion_26
def f_X3_densityAt_r (pm : Int32) (pd : Nat → Int32) (a : Int32) (b : Int32) : Int64 := if pm = 1 then ((f_J9_floorDiv_f86c9_r (((pd 0).toInt64 * (if (0 : Int32) < a then a else (0 : Int32)).toInt64) * 2931) (101 * (if (1 : Int32) < (b + 2731) then (b + 2731) else (1 : Int32)).toInt64))) else ((f_X3_interpolated_D_r pd b.toInt64))
set_option maxHeartbeats 4000000 in
set_option maxRecDepth 100000 in
theorem k_X3_densityAt (l : Launch) (G : sw_E) (h0 : Nat) (d0 : Nat) (f0 : Nat) (pm : Int32) (pk : Int32) (pd : Nat → Int32) (pf : Nat → Int32) (a : Int32) (b : Int32) (hy : ¬ (101 * (if (1 : Int32) < (b + 2731) then (b + 2731) else 1).toInt64) = 0) : sw_M l G yX3_densityAt wsX3_densityAt ({ frames := 2, cells := 0, slots := 0, locals := 55 } : Room) [.ref h0, .int a, .int b] [(h0, .inr (3, [.int pm, .int pk, .ref d0, .ref f0])), (d0, .inl (G.2.1.1, 6, .inl pd)), (f0, .inl (G.2.1.1, 5, .inl pf))] (sw_QL G (S := Unit) (fun (r : Int64) (_ : Unit) => r = f_X3_densityAt_r pm pd a b) (fun _ => [(h0, .inr (3, [.int pm, .int pk, .ref d0, .ref f0])), (d0, .inl (G.2.1.1, 6, .inl pd)), (f0, .inl (G.2.1.1, 5, .inl pf))])) 0 0 := by
  refine sw_start (cc := cX3_densityAt) (maxL := 5) (ret := some .long) (lv := [(0, .ref h0), (1, .int a), (2, .int b)]) (own := RX3) (nm := "densityAt") (by decide +kernel) rfl rfl rfl rfl (Nat.le_of_ble_eq_true rfl) (fun C F T => ?_)
  have in3 : ∀ w ∈ u_ws RX3 TX3 4, w ∈ wsX3_densityAt := fun w h => List.mem_cons_of_mem _ (List.mem_append_right _ (h))
  refine sw_aload_n (pc := 0) F dX3_densityAt_0 rfl 0 rfl ?_
  refine sw_get (pc := 1) (Cn := RX3) (T := TX3) (N := 4) (ci := 3) (v := .int pm) F in3 0 rfl rfl 0 (by decide) rfl (List.mem_of_getElem? (i := 1) rfl) rfl dX3_densityAt_1 ?_
  refine sw_iconst (pc := 4) (v := 1) F dX3_densityAt_4 rfl ?_
  refine sw_icmp_ne (pc := 5) (tgt := 46) F dX3_densityAt_5 (by decide) (fun c_1 => ?_) (fun c_1 => ?_)
  · skip
    refine sw_gets (pc := 46) (nm := "DENSITY_TEMPERATURES") F rfl F.2.2.2.2.2.2.2.2.1.1 (List.mem_of_getElem? (i := 0) rfl) dX3_densityAt_46 ?_
    refine sw_aload_n (pc := 49) F dX3_densityAt_49 rfl 0 rfl ?_
    refine sw_get (pc := 50) (Cn := RX3) (T := TX3) (N := 4) (ci := 3) (v := .ref d0) F in3 0 rfl rfl 2 (by decide) rfl (List.mem_of_getElem? (i := 2) rfl) rfl dX3_densityAt_50 ?_
    refine sw_iload_n (pc := 53) F dX3_densityAt_53 rfl 2 rfl ?_
    refine sw_i2l (pc := 54) F dX3_densityAt_54 rfl ?_
    refine sw_calll (pc := 55) (wr := [(h0, .inr (3, [.int pm, .int pk, .ref d0, .ref f0])), (f0, .inl (G.2.1.1, 5, .inl pf))]) (k' := 0) (n' := 0) F (sw_runS (R := ({ frames := 2, cells := 0, slots := 0, locals := 55 } : Room)) (na := 3) F T.2.1 T.2.2.1 (k_X3_interpolated_D l G d0 pd b.toInt64) [1] rfl (by decide) gX3_densityAt_X3_interpolated rfl rfl rfl (by decide +kernel) ⟨Nat.le_of_ble_eq_true rfl, Nat.le_of_ble_eq_true rfl⟩ rfl rfl (Nat.le_of_ble_eq_true rfl) dX3_densityAt_55 (Nat.le_of_ble_eq_true rfl) (Nat.le_of_ble_eq_true rfl)) [1] [0, 2] rfl rfl (by decide) (by decide) rfl rfl (fun r_2 u_3 h_4 => ?_)
    have e_5 : r_2 = f_X3_interpolated_D_r pd b.toInt64 := h_4
    refine sw_eq (ws' := [(h0, .inr (3, [.int pm, .int pk, .ref d0, .ref f0])), (f0, .inl (G.2.1.1, 5, .inl pf)), (d0, .inl (G.2.1.1, 6, .inl pd))]) (lv' := [(0, .ref h0), (1, .int a), (2, .int b)]) (st' := [.long r_2]) rfl rfl rfl ?_
    subst e_5
    refine sw_perm (ws' := [(h0, .inr (3, [.int pm, .int pk, .ref d0, .ref f0])), (d0, .inl (G.2.1.1, 6, .inl pd)), (f0, .inl (G.2.1.1, 5, .inl pf))]) [0, 2, 1] (by decide) rfl ?_
    exact sw_lret (pc := 58) F T () (by unfold f_X3_densityAt_r; rw [if_neg c_1]) rfl dX3_densityAt_58
  · skip
    refine sw_aload_n (pc := 8) F dX3_densityAt_8 rfl 0 rfl ?_
    refine sw_get (pc := 9) (Cn := RX3) (T := TX3) (N := 4) (ci := 3) (v := .ref d0) F in3 0 rfl rfl 2 (by decide) rfl (List.mem_of_getElem? (i := 2) rfl) rfl dX3_densityAt_9 ?_
    refine sw_iconst (pc := 12) (v := 0) F dX3_densityAt_12 rfl ?_
    refine sw_iald (pc := 13) F 1 rfl (sw_in rfl) dX3_densityAt_13 ?_
    refine sw_nami (e := pd 0) rfl (fun x_6 ex_6 => ?_)
    refine sw_i2l (pc := 14) F dX3_densityAt_14 rfl ?_
    refine sw_iconst (pc := 15) (v := 0) F dX3_densityAt_15 rfl ?_
    refine sw_iload_n (pc := 16) F dX3_densityAt_16 rfl 1 rfl ?_
    refine sw_max (pc := 17) (rm := ({ frames := 2, cells := 0, slots := 0, locals := 55 } : Room)) F T.2.1 (List.mem_of_getElem? (i := 3) rfl) (List.mem_of_getElem? (i := 4) rfl) (List.mem_of_getElem? (i := 5) rfl) (List.mem_of_getElem? (i := 6) rfl) (Nat.le_of_ble_eq_true rfl) (Nat.le_of_ble_eq_true rfl) (Nat.le_of_ble_eq_true rfl) (Nat.le_of_ble_eq_true rfl) dX3_densityAt_17 ?_
    refine sw_topi (fun x_7 ex_7 => ?_)
    refine sw_i2l (pc := 20) F dX3_densityAt_20 rfl ?_
    refine sw_lmul (pc := 21) F dX3_densityAt_21 ?_
    refine sw_topl (fun x_8 ex_8 => ?_)
    refine sw_ldc2 (pc := 22) (v := 2931) F (List.mem_of_getElem? (i := 7) rfl) dX3_densityAt_22 ?_
    refine sw_lmul (pc := 25) F dX3_densityAt_25 ?_
    refine sw_topl (fun x_9 ex_9 => ?_)
    refine sw_lstore_n (pc := 26) (lv' := [(3, .long x_9), (0, .ref h0), (1, .int a), (2, .int b)]) F T.1 dX3_densityAt_26 rfl (by decide) rfl ?_
    refine sw_lload_n (pc := 27) F dX3_densityAt_27 rfl 0 rfl ?_
    refine sw_ldc2 (pc := 28) (v := 101) F (List.mem_of_getElem? (i := 8) rfl) dX3_densityAt_28 ?_
    refine sw_iconst (pc := 31) (v := 1) F dX3_densityAt_31 rfl ?_
    refine sw_iload_n (pc := 32) F dX3_densityAt_32 rfl 3 rfl ?_
    refine sw_sipush (pc := 33) (v := 2731) F dX3_densityAt_33 rfl ?_
    refine sw_iadd (pc := 36) F dX3_densityAt_36 ?_
    refine sw_topi (fun x_10 ex_10 => ?_)
    refine sw_max (pc := 37) (rm := ({ frames := 2, cells := 0, slots := 0, locals := 55 } : Room)) F T.2.1 (List.mem_of_getElem? (i := 3) rfl) (List.mem_of_getElem? (i := 4) rfl) (List.mem_of_getElem? (i := 5) rfl) (List.mem_of_getElem? (i := 6) rfl) (Nat.le_of_ble_eq_true rfl) (Nat.le_of_ble_eq_true rfl) (Nat.le_of_ble_eq_true rfl) (Nat.le_of_ble_eq_true rfl) dX3_densityAt_37 ?_
    refine sw_topi (fun x_11 ex_11 => ?_)
    refine sw_i2l (pc := 40) F dX3_densityAt_40 rfl ?_
    refine sw_lmul (pc := 41) F dX3_densityAt_41 ?_
    refine sw_topl (fun x_12 ex_12 => ?_)
    refine sw_calll (pc := 42) (wr := [(h0, .inr (3, [.int pm, .int pk, .ref d0, .ref f0])), (d0, .inl (G.2.1.1, 6, .inl pd)), (f0, .inl (G.2.1.1, 5, .inl pf))]) (k' := 0) (n' := 0) F (sw_runS (R := ({ frames := 2, cells := 0, slots := 0, locals := 55 } : Room)) (na := 2) F T.2.1 T.2.2.1 (k_J9_floorDiv_f86c9 l G x_9 x_12 (by subst_vars; exact hy)) [] rfl (by decide) gX3_densityAt_J9_floorDiv_f86c9 rfl rfl rfl (by decide +kernel) ⟨Nat.le_of_ble_eq_true rfl, Nat.le_of_ble_eq_true rfl⟩ rfl rfl (Nat.le_of_ble_eq_true rfl) dX3_densityAt_42 (Nat.le_of_ble_eq_true rfl) (Nat.le_of_ble_eq_true rfl)) [] [0, 1, 2] rfl rfl (by decide) (by decide) rfl rfl (fun r_13 u_14 h_15 => ?_)
    have e_16 : r_13 = f_J9_floorDiv_f86c9_r x_9 x_12 := h_15
    refine sw_eq (ws' := [(h0, .inr (3, [.int pm, .int pk, .ref d0, .ref f0])), (d0, .inl (G.2.1.1, 6, .inl pd)), (f0, .inl (G.2.1.1, 5, .inl pf))]) (lv' := [(3, .long x_9), (0, .ref h0), (1, .int a), (2, .int b)]) (st' := [.long r_13]) rfl rfl rfl ?_
    subst e_16
    subst ex_12
    subst ex_11
    subst ex_10
    subst ex_9
    subst ex_8
    subst ex_7
    subst ex_6
    exact sw_lret (pc := 45) F T () (by unfold f_X3_densityAt_r; rw [if_pos c_1]) rfl dX3_densityAt_45
def f_X3_hashOfTables_r (pd : Nat → Int32) (pf : Nat → Int32) (a : Int64) : Int64 := (f_X9_hashed_r (f_X9_hashed_r (f_X9_hashed_r (f_X9_hashed_r (f_X9_hashed_r (f_X9_hashed_r (f_X9_hashed_r (f_X9_hashed_r (f_X9_hashed_r (f_X9_hashed_r (f_X9_hashed_r a (pd 0).toInt64) (pd 1).toInt64) (pd 2).toInt64) (pd 3).toInt64) (pd 4).toInt64) (pd 5).toInt64) (pf 0).toInt64) (pf 1).toInt64) (pf 2).toInt64) (pf 3).toInt64) (pf 4).toInt64)
set_option maxHeartbeats 4000000 in
set_option maxRecDepth 100000 in
theorem k_X3_hashOfTables (l : Launch) (G : sw_E) (h0 : Nat) (d0 : Nat) (f0 : Nat) (pm : Int32) (pk : Int32) (pd : Nat → Int32) (pf : Nat → Int32) (a : Int64)  : sw_M l G yX3_hashOfTables wsX3_hashOfTables ({ frames := 1, cells := 0, slots := 0, locals := 23 } : Room) [.ref h0, .long a] [(h0, .inr (3, [.int pm, .int pk, .ref d0, .ref f0])), (d0, .inl (G.2.1.1, 6, .inl pd)), (f0, .inl (G.2.1.1, 5, .inl pf))] (sw_QL G (S := Unit) (fun (r : Int64) (_ : Unit) => r = f_X3_hashOfTables_r pd pf a) (fun _ => [(h0, .inr (3, [.int pm, .int pk, .ref d0, .ref f0])), (d0, .inl (G.2.1.1, 6, .inl pd)), (f0, .inl (G.2.1.1, 5, .inl pf))])) 0 0 := by
  refine sw_start (cc := cX3_hashOfTables) (maxL := 6) (ret := some .long) (lv := [(0, .ref h0), (1, .long a)]) (own := RX3) (nm := "hashOfTables") (by decide +kernel) rfl rfl rfl rfl (Nat.le_of_ble_eq_true rfl) (fun C F T => ?_)
  have in3 : ∀ w ∈ u_ws RX3 TX3 4, w ∈ wsX3_hashOfTables := fun w h => List.mem_cons_of_mem _ (List.mem_append_right _ (h))
  refine sw_lload_n (pc := 0) F dX3_hashOfTables_0 rfl 1 rfl ?_
  refine sw_lstore_n (pc := 1) (lv' := [(3, .long a), (0, .ref h0), (1, .long a)]) F T.1 dX3_hashOfTables_1 rfl (by decide) rfl ?_
  refine sw_iconst (pc := 2) (v := 0) F dX3_hashOfTables_2 rfl ?_
  refine sw_istore (pc := 3) (lv' := [(5, .int 0), (3, .long a), (0, .ref h0), (1, .long a)]) F T.1 dX3_hashOfTables_3 (by decide) rfl ?_
  refine sw_iload (pc := 5) F dX3_hashOfTables_5 0 rfl ?_
  refine sw_aload_n (pc := 7) F dX3_hashOfTables_7 rfl 2 rfl ?_
  refine sw_get (pc := 8) (Cn := RX3) (T := TX3) (N := 4) (ci := 3) (v := .ref d0) F in3 0 rfl rfl 2 (by decide) rfl (List.mem_of_getElem? (i := 1) rfl) rfl dX3_hashOfTables_8 ?_
  refine sw_alenI (pc := 11) (v := 6) F 1 rfl rfl dX3_hashOfTables_11 ?_
  refine sw_icmp_ge (pc := 12) (tgt := 34) F dX3_hashOfTables_12 (by decide) (fun c => absurd c (by decide)) (fun _ => ?_)
  refine sw_lload_n (pc := 15) F dX3_hashOfTables_15 rfl 1 rfl ?_
  refine sw_aload_n (pc := 16) F dX3_hashOfTables_16 rfl 2 rfl ?_
  refine sw_get (pc := 17) (Cn := RX3) (T := TX3) (N := 4) (ci := 3) (v := .ref d0) F in3 0 rfl rfl 2 (by decide) rfl (List.mem_of_getElem? (i := 1) rfl) rfl dX3_hashOfTables_17 ?_
  refine sw_iload (pc := 20) F dX3_hashOfTables_20 0 rfl ?_
  refine sw_iald (pc := 22) F 1 rfl (sw_in rfl) dX3_hashOfTables_22 ?_
  refine sw_nami (e := pd 0) rfl (fun x_1 ex_1 => ?_)
  refine sw_i2l (pc := 23) F dX3_hashOfTables_23 rfl ?_
  refine sw_calll (pc := 24) (wr := [(h0, .inr (3, [.int pm, .int pk, .ref d0, .ref f0])), (d0, .inl (G.2.1.1, 6, .inl pd)), (f0, .inl (G.2.1.1, 5, .inl pf))]) (k' := 0) (n' := 0) F (sw_runSN (R := ({ frames := 1, cells := 0, slots := 0, locals := 23 } : Room)) (na := 2) F T.2.1 T.2.2.1 (k_X9_hashed l G a x_1.toInt64) [] rfl (by decide) gX3_hashOfTables_X9_hashed_n74 rfl rfl rfl (List.mem_of_getElem? (i := 4) rfl) (List.mem_of_getElem? (i := 9) rfl) (List.mem_of_getElem? (i := 3) rfl) (by decide +kernel) ⟨Nat.le_of_ble_eq_true rfl, Nat.le_of_ble_eq_true rfl⟩ rfl rfl (Nat.le_of_ble_eq_true rfl) dX3_hashOfTables_24 (Nat.le_of_ble_eq_true rfl) (Nat.le_of_ble_eq_true rfl)) [] [0, 1, 2] rfl rfl (by decide) (by decide) rfl rfl (fun r_2 u_3 h_4 => ?_)
  have e_5 : r_2 = f_X9_hashed_r a x_1.toInt64 := h_4
  refine sw_eq (ws' := [(h0, .inr (3, [.int pm, .int pk, .ref d0, .ref f0])), (d0, .inl (G.2.1.1, 6, .inl pd)), (f0, .inl (G.2.1.1, 5, .inl pf))]) (lv' := [(5, .int 0), (3, .long a), (0, .ref h0), (1, .long a)]) (st' := [.long r_2]) rfl rfl rfl ?_
  refine sw_lstore_n (pc := 27) (lv' := [(3, .long r_2), (5, .int 0), (0, .ref h0), (1, .long a)]) F T.1 dX3_hashOfTables_27 rfl (by decide) rfl ?_
  refine sw_iinc (pc := 28) (v := 1) (lv' := [(5, .int 1), (3, .long r_2), (0, .ref h0), (1, .long a)]) F T.1 dX3_hashOfTables_28 (q := 1) rfl rfl (by decide) rfl ?_
  refine sw_goto (pc := 31) (tgt := 5) F dX3_hashOfTables_31 (by decide) ?_
  refine sw_iload (pc := 5) F dX3_hashOfTables_5 0 rfl ?_
  refine sw_aload_n (pc := 7) F dX3_hashOfTables_7 rfl 2 rfl ?_
  refine sw_get (pc := 8) (Cn := RX3) (T := TX3) (N := 4) (ci := 3) (v := .ref d0) F in3 0 rfl rfl 2 (by decide) rfl (List.mem_of_getElem? (i := 1) rfl) rfl dX3_hashOfTables_8 ?_
  refine sw_alenI (pc := 11) (v := 6) F 1 rfl rfl dX3_hashOfTables_11 ?_
  refine sw_icmp_ge (pc := 12) (tgt := 34) F dX3_hashOfTables_12 (by decide) (fun c => absurd c (by decide)) (fun _ => ?_)
  refine sw_lload_n (pc := 15) F dX3_hashOfTables_15 rfl 1 rfl ?_
  refine sw_aload_n (pc := 16) F dX3_hashOfTables_16 rfl 2 rfl ?_
  refine sw_get (pc := 17) (Cn := RX3) (T := TX3) (N := 4) (ci := 3) (v := .ref d0) F in3 0 rfl rfl 2 (by decide) rfl (List.mem_of_getElem? (i := 1) rfl) rfl dX3_hashOfTables_17 ?_
  refine sw_iload (pc := 20) F dX3_hashOfTables_20 0 rfl ?_
  refine sw_iald (pc := 22) F 1 rfl (sw_in rfl) dX3_hashOfTables_22 ?_
  refine sw_nami (e := pd 1) rfl (fun x_6 ex_6 => ?_)
  refine sw_i2l (pc := 23) F dX3_hashOfTables_23 rfl ?_
  refine sw_calll (pc := 24) (wr := [(h0, .inr (3, [.int pm, .int pk, .ref d0, .ref f0])), (d0, .inl (G.2.1.1, 6, .inl pd)), (f0, .inl (G.2.1.1, 5, .inl pf))]) (k' := 0) (n' := 0) F (sw_runSN (R := ({ frames := 1, cells := 0, slots := 0, locals := 23 } : Room)) (na := 2) F T.2.1 T.2.2.1 (k_X9_hashed l G r_2 x_6.toInt64) [] rfl (by decide) gX3_hashOfTables_X9_hashed_n74 rfl rfl rfl (List.mem_of_getElem? (i := 4) rfl) (List.mem_of_getElem? (i := 9) rfl) (List.mem_of_getElem? (i := 3) rfl) (by decide +kernel) ⟨Nat.le_of_ble_eq_true rfl, Nat.le_of_ble_eq_true rfl⟩ rfl rfl (Nat.le_of_ble_eq_true rfl) dX3_hashOfTables_24 (Nat.le_of_ble_eq_true rfl) (Nat.le_of_ble_eq_true rfl)) [] [0, 1, 2] rfl rfl (by decide) (by decide) rfl rfl (fun r_7 u_8 h_9 => ?_)
  have e_10 : r_7 = f_X9_hashed_r r_2 x_6.toInt64 := h_9
  refine sw_eq (ws' := [(h0, .inr (3, [.int pm, .int pk, .ref d0, .ref f0])), (d0, .inl (G.2.1.1, 6, .inl pd)), (f0, .inl (G.2.1.1, 5, .inl pf))]) (lv' := [(5, .int 1), (3, .long r_2), (0, .ref h0), (1, .long a)]) (st' := [.long r_7]) rfl rfl rfl ?_
  refine sw_lstore_n (pc := 27) (lv' := [(3, .long r_7), (5, .int 1), (0, .ref h0), (1, .long a)]) F T.1 dX3_hashOfTables_27 rfl (by decide) rfl ?_
  refine sw_iinc (pc := 28) (v := 2) (lv' := [(5, .int 2), (3, .long r_7), (0, .ref h0), (1, .long a)]) F T.1 dX3_hashOfTables_28 (q := 1) rfl rfl (by decide) rfl ?_
  refine sw_goto (pc := 31) (tgt := 5) F dX3_hashOfTables_31 (by decide) ?_
  refine sw_iload (pc := 5) F dX3_hashOfTables_5 0 rfl ?_
  refine sw_aload_n (pc := 7) F dX3_hashOfTables_7 rfl 2 rfl ?_
  refine sw_get (pc := 8) (Cn := RX3) (T := TX3) (N := 4) (ci := 3) (v := .ref d0) F in3 0 rfl rfl 2 (by decide) rfl (List.mem_of_getElem? (i := 1) rfl) rfl dX3_hashOfTables_8 ?_
  refine sw_alenI (pc := 11) (v := 6) F 1 rfl rfl dX3_hashOfTables_11 ?_
  refine sw_icmp_ge (pc := 12) (tgt := 34) F dX3_hashOfTables_12 (by decide) (fun c => absurd c (by decide)) (fun _ => ?_)
  refine sw_lload_n (pc := 15) F dX3_hashOfTables_15 rfl 1 rfl ?_
  refine sw_aload_n (pc := 16) F dX3_hashOfTables_16 rfl 2 rfl ?_
  refine sw_get (pc := 17) (Cn := RX3) (T := TX3) (N := 4) (ci := 3) (v := .ref d0) F in3 0 rfl rfl 2 (by decide) rfl (List.mem_of_getElem? (i := 1) rfl) rfl dX3_hashOfTables_17 ?_
  refine sw_iload (pc := 20) F dX3_hashOfTables_20 0 rfl ?_
  refine sw_iald (pc := 22) F 1 rfl (sw_in rfl) dX3_hashOfTables_22 ?_
  refine sw_nami (e := pd 2) rfl (fun x_11 ex_11 => ?_)
  refine sw_i2l (pc := 23) F dX3_hashOfTables_23 rfl ?_
  refine sw_calll (pc := 24) (wr := [(h0, .inr (3, [.int pm, .int pk, .ref d0, .ref f0])), (d0, .inl (G.2.1.1, 6, .inl pd)), (f0, .inl (G.2.1.1, 5, .inl pf))]) (k' := 0) (n' := 0) F (sw_runSN (R := ({ frames := 1, cells := 0, slots := 0, locals := 23 } : Room)) (na := 2) F T.2.1 T.2.2.1 (k_X9_hashed l G r_7 x_11.toInt64) [] rfl (by decide) gX3_hashOfTables_X9_hashed_n74 rfl rfl rfl (List.mem_of_getElem? (i := 4) rfl) (List.mem_of_getElem? (i := 9) rfl) (List.mem_of_getElem? (i := 3) rfl) (by decide +kernel) ⟨Nat.le_of_ble_eq_true rfl, Nat.le_of_ble_eq_true rfl⟩ rfl rfl (Nat.le_of_ble_eq_true rfl) dX3_hashOfTables_24 (Nat.le_of_ble_eq_true rfl) (Nat.le_of_ble_eq_true rfl)) [] [0, 1, 2] rfl rfl (by decide) (by decide) rfl rfl (fun r_12 u_13 h_14 => ?_)
  have e_15 : r_12 = f_X9_hashed_r r_7 x_11.toInt64 := h_14
  refine sw_eq (ws' := [(h0, .inr (3, [.int pm, .int pk, .ref d0, .ref f0])), (d0, .inl (G.2.1.1, 6, .inl pd)), (f0, .inl (G.2.1.1, 5, .inl pf))]) (lv' := [(5, .int 2), (3, .long r_7), (0, .ref h0), (1, .long a)]) (st' := [.long r_12]) rfl rfl rfl ?_
  refine sw_lstore_n (pc := 27) (lv' := [(3, .long r_12), (5, .int 2), (0, .ref h0), (1, .long a)]) F T.1 dX3_hashOfTables_27 rfl (by decide) rfl ?_
  refine sw_iinc (pc := 28) (v := 3) (lv' := [(5, .int 3), (3, .long r_12), (0, .ref h0), (1, .long a)]) F T.1 dX3_hashOfTables_28 (q := 1) rfl rfl (by decide) rfl ?_
  refine sw_goto (pc := 31) (tgt := 5) F dX3_hashOfTables_31 (by decide) ?_
  refine sw_iload (pc := 5) F dX3_hashOfTables_5 0 rfl ?_
  refine sw_aload_n (pc := 7) F dX3_hashOfTables_7 rfl 2 rfl ?_
  refine sw_get (pc := 8) (Cn := RX3) (T := TX3) (N := 4) (ci := 3) (v := .ref d0) F in3 0 rfl rfl 2 (by decide) rfl (List.mem_of_getElem? (i := 1) rfl) rfl dX3_hashOfTables_8 ?_
  refine sw_alenI (pc := 11) (v := 6) F 1 rfl rfl dX3_hashOfTables_11 ?_
  refine sw_icmp_ge (pc := 12) (tgt := 34) F dX3_hashOfTables_12 (by decide) (fun c => absurd c (by decide)) (fun _ => ?_)
  refine sw_lload_n (pc := 15) F dX3_hashOfTables_15 rfl 1 rfl ?_
  refine sw_aload_n (pc := 16) F dX3_hashOfTables_16 rfl 2 rfl ?_
  refine sw_get (pc := 17) (Cn := RX3) (T := TX3) (N := 4) (ci := 3) (v := .ref d0) F in3 0 rfl rfl 2 (by decide) rfl (List.mem_of_getElem? (i := 1) rfl) rfl dX3_hashOfTables_17 ?_
  refine sw_iload (pc := 20) F dX3_hashOfTables_20 0 rfl ?_
  refine sw_iald (pc := 22) F 1 rfl (sw_in rfl) dX3_hashOfTables_22 ?_
  refine sw_nami (e := pd 3) rfl (fun x_16 ex_16 => ?_)
  refine sw_i2l (pc := 23) F dX3_hashOfTables_23 rfl ?_
  refine sw_calll (pc := 24) (wr := [(h0, .inr (3, [.int pm, .int pk, .ref d0, .ref f0])), (d0, .inl (G.2.1.1, 6, .inl pd)), (f0, .inl (G.2.1.1, 5, .inl pf))]) (k' := 0) (n' := 0) F (sw_runSN (R := ({ frames := 1, cells := 0, slots := 0, locals := 23 } : Room)) (na := 2) F T.2.1 T.2.2.1 (k_X9_hashed l G r_12 x_16.toInt64) [] rfl (by decide) gX3_hashOfTables_X9_hashed_n74 rfl rfl rfl (List.mem_of_getElem? (i := 4) rfl) (List.mem_of_getElem? (i := 9) rfl) (List.mem_of_getElem? (i := 3) rfl) (by decide +kernel) ⟨Nat.le_of_ble_eq_true rfl, Nat.le_of_ble_eq_true rfl⟩ rfl rfl (Nat.le_of_ble_eq_true rfl) dX3_hashOfTables_24 (Nat.le_of_ble_eq_true rfl) (Nat.le_of_ble_eq_true rfl)) [] [0, 1, 2] rfl rfl (by decide) (by decide) rfl rfl (fun r_17 u_18 h_19 => ?_)
  have e_20 : r_17 = f_X9_hashed_r r_12 x_16.toInt64 := h_19
  refine sw_eq (ws' := [(h0, .inr (3, [.int pm, .int pk, .ref d0, .ref f0])), (d0, .inl (G.2.1.1, 6, .inl pd)), (f0, .inl (G.2.1.1, 5, .inl pf))]) (lv' := [(5, .int 3), (3, .long r_12), (0, .ref h0), (1, .long a)]) (st' := [.long r_17]) rfl rfl rfl ?_
  refine sw_lstore_n (pc := 27) (lv' := [(3, .long r_17), (5, .int 3), (0, .ref h0), (1, .long a)]) F T.1 dX3_hashOfTables_27 rfl (by decide) rfl ?_
  refine sw_iinc (pc := 28) (v := 4) (lv' := [(5, .int 4), (3, .long r_17), (0, .ref h0), (1, .long a)]) F T.1 dX3_hashOfTables_28 (q := 1) rfl rfl (by decide) rfl ?_
  refine sw_goto (pc := 31) (tgt := 5) F dX3_hashOfTables_31 (by decide) ?_
  refine sw_iload (pc := 5) F dX3_hashOfTables_5 0 rfl ?_
  refine sw_aload_n (pc := 7) F dX3_hashOfTables_7 rfl 2 rfl ?_
  refine sw_get (pc := 8) (Cn := RX3) (T := TX3) (N := 4) (ci := 3) (v := .ref d0) F in3 0 rfl rfl 2 (by decide) rfl (List.mem_of_getElem? (i := 1) rfl) rfl dX3_hashOfTables_8 ?_
  refine sw_alenI (pc := 11) (v := 6) F 1 rfl rfl dX3_hashOfTables_11 ?_
  refine sw_icmp_ge (pc := 12) (tgt := 34) F dX3_hashOfTables_12 (by decide) (fun c => absurd c (by decide)) (fun _ => ?_)
  refine sw_lload_n (pc := 15) F dX3_hashOfTables_15 rfl 1 rfl ?_
  refine sw_aload_n (pc := 16) F dX3_hashOfTables_16 rfl 2 rfl ?_
  refine sw_get (pc := 17) (Cn := RX3) (T := TX3) (N := 4) (ci := 3) (v := .ref d0) F in3 0 rfl rfl 2 (by decide) rfl (List.mem_of_getElem? (i := 1) rfl) rfl dX3_hashOfTables_17 ?_
  refine sw_iload (pc := 20) F dX3_hashOfTables_20 0 rfl ?_
  refine sw_iald (pc := 22) F 1 rfl (sw_in rfl) dX3_hashOfTables_22 ?_
  refine sw_nami (e := pd 4) rfl (fun x_21 ex_21 => ?_)
  refine sw_i2l (pc := 23) F dX3_hashOfTables_23 rfl ?_
  refine sw_calll (pc := 24) (wr := [(h0, .inr (3, [.int pm, .int pk, .ref d0, .ref f0])), (d0, .inl (G.2.1.1, 6, .inl pd)), (f0, .inl (G.2.1.1, 5, .inl pf))]) (k' := 0) (n' := 0) F (sw_runSN (R := ({ frames := 1, cells := 0, slots := 0, locals := 23 } : Room)) (na := 2) F T.2.1 T.2.2.1 (k_X9_hashed l G r_17 x_21.toInt64) [] rfl (by decide) gX3_hashOfTables_X9_hashed_n74 rfl rfl rfl (List.mem_of_getElem? (i := 4) rfl) (List.mem_of_getElem? (i := 9) rfl) (List.mem_of_getElem? (i := 3) rfl) (by decide +kernel) ⟨Nat.le_of_ble_eq_true rfl, Nat.le_of_ble_eq_true rfl⟩ rfl rfl (Nat.le_of_ble_eq_true rfl) dX3_hashOfTables_24 (Nat.le_of_ble_eq_true rfl) (Nat.le_of_ble_eq_true rfl)) [] [0, 1, 2] rfl rfl (by decide) (by decide) rfl rfl (fun r_22 u_23 h_24 => ?_)
  have e_25 : r_22 = f_X9_hashed_r r_17 x_21.toInt64 := h_24
  refine sw_eq (ws' := [(h0, .inr (3, [.int pm, .int pk, .ref d0, .ref f0])), (d0, .inl (G.2.1.1, 6, .inl pd)), (f0, .inl (G.2.1.1, 5, .inl pf))]) (lv' := [(5, .int 4), (3, .long r_17), (0, .ref h0), (1, .long a)]) (st' := [.long r_22]) rfl rfl rfl ?_
  refine sw_lstore_n (pc := 27) (lv' := [(3, .long r_22), (5, .int 4), (0, .ref h0), (1, .long a)]) F T.1 dX3_hashOfTables_27 rfl (by decide) rfl ?_
  refine sw_iinc (pc := 28) (v := 5) (lv' := [(5, .int 5), (3, .long r_22), (0, .ref h0), (1, .long a)]) F T.1 dX3_hashOfTables_28 (q := 1) rfl rfl (by decide) rfl ?_
  refine sw_goto (pc := 31) (tgt := 5) F dX3_hashOfTables_31 (by decide) ?_
  refine sw_iload (pc := 5) F dX3_hashOfTables_5 0 rfl ?_
  refine sw_aload_n (pc := 7) F dX3_hashOfTables_7 rfl 2 rfl ?_
  refine sw_get (pc := 8) (Cn := RX3) (T := TX3) (N := 4) (ci := 3) (v := .ref d0) F in3 0 rfl rfl 2 (by decide) rfl (List.mem_of_getElem? (i := 1) rfl) rfl dX3_hashOfTables_8 ?_
  refine sw_alenI (pc := 11) (v := 6) F 1 rfl rfl dX3_hashOfTables_11 ?_
  refine sw_icmp_ge (pc := 12) (tgt := 34) F dX3_hashOfTables_12 (by decide) (fun c => absurd c (by decide)) (fun _ => ?_)
  refine sw_lload_n (pc := 15) F dX3_hashOfTables_15 rfl 1 rfl ?_
  refine sw_aload_n (pc := 16) F dX3_hashOfTables_16 rfl 2 rfl ?_
  refine sw_get (pc := 17) (Cn := RX3) (T := TX3) (N := 4) (ci := 3) (v := .ref d0) F in3 0 rfl rfl 2 (by decide) rfl (List.mem_of_getElem? (i := 1) rfl) rfl dX3_hashOfTables_17 ?_
  refine sw_iload (pc := 20) F dX3_hashOfTables_20 0 rfl ?_
  refine sw_iald (pc := 22) F 1 rfl (sw_in rfl) dX3_hashOfTables_22 ?_
  refine sw_nami (e := pd 5) rfl (fun x_26 ex_26 => ?_)
  refine sw_i2l (pc := 23) F dX3_hashOfTables_23 rfl ?_
  refine sw_calll (pc := 24) (wr := [(h0, .inr (3, [.int pm, .int pk, .ref d0, .ref f0])), (d0, .inl (G.2.1.1, 6, .inl pd)), (f0, .inl (G.2.1.1, 5, .inl pf))]) (k' := 0) (n' := 0) F (sw_runSN (R := ({ frames := 1, cells := 0, slots := 0, locals := 23 } : Room)) (na := 2) F T.2.1 T.2.2.1 (k_X9_hashed l G r_22 x_26.toInt64) [] rfl (by decide) gX3_hashOfTables_X9_hashed_n74 rfl rfl rfl (List.mem_of_getElem? (i := 4) rfl) (List.mem_of_getElem? (i := 9) rfl) (List.mem_of_getElem? (i := 3) rfl) (by decide +kernel) ⟨Nat.le_of_ble_eq_true rfl, Nat.le_of_ble_eq_true rfl⟩ rfl rfl (Nat.le_of_ble_eq_true rfl) dX3_hashOfTables_24 (Nat.le_of_ble_eq_true rfl) (Nat.le_of_ble_eq_true rfl)) [] [0, 1, 2] rfl rfl (by decide) (by decide) rfl rfl (fun r_27 u_28 h_29 => ?_)
  have e_30 : r_27 = f_X9_hashed_r r_22 x_26.toInt64 := h_29
  refine sw_eq (ws' := [(h0, .inr (3, [.int pm, .int pk, .ref d0, .ref f0])), (d0, .inl (G.2.1.1, 6, .inl pd)), (f0, .inl (G.2.1.1, 5, .inl pf))]) (lv' := [(5, .int 5), (3, .long r_22), (0, .ref h0), (1, .long a)]) (st' := [.long r_27]) rfl rfl rfl ?_
  refine sw_lstore_n (pc := 27) (lv' := [(3, .long r_27), (5, .int 5), (0, .ref h0), (1, .long a)]) F T.1 dX3_hashOfTables_27 rfl (by decide) rfl ?_
  refine sw_iinc (pc := 28) (v := 6) (lv' := [(5, .int 6), (3, .long r_27), (0, .ref h0), (1, .long a)]) F T.1 dX3_hashOfTables_28 (q := 1) rfl rfl (by decide) rfl ?_
  refine sw_goto (pc := 31) (tgt := 5) F dX3_hashOfTables_31 (by decide) ?_
  refine sw_iload (pc := 5) F dX3_hashOfTables_5 0 rfl ?_
  refine sw_aload_n (pc := 7) F dX3_hashOfTables_7 rfl 2 rfl ?_
  refine sw_get (pc := 8) (Cn := RX3) (T := TX3) (N := 4) (ci := 3) (v := .ref d0) F in3 0 rfl rfl 2 (by decide) rfl (List.mem_of_getElem? (i := 1) rfl) rfl dX3_hashOfTables_8 ?_
  refine sw_alenI (pc := 11) (v := 6) F 1 rfl rfl dX3_hashOfTables_11 ?_
  refine sw_icmp_ge (pc := 12) (tgt := 34) F dX3_hashOfTables_12 (by decide) (fun _ => ?_) (fun c => absurd c (by decide))
  refine sw_iconst (pc := 34) (v := 0) F dX3_hashOfTables_34 rfl ?_
  refine sw_istore (pc := 35) (lv' := [(5, .int 0), (3, .long r_27), (0, .ref h0), (1, .long a)]) F T.1 dX3_hashOfTables_35 (by decide) rfl ?_
  refine sw_iload (pc := 37) F dX3_hashOfTables_37 0 rfl ?_
  refine sw_aload_n (pc := 39) F dX3_hashOfTables_39 rfl 2 rfl ?_
  refine sw_get (pc := 40) (Cn := RX3) (T := TX3) (N := 4) (ci := 3) (v := .ref f0) F in3 0 rfl rfl 3 (by decide) rfl (List.mem_of_getElem? (i := 2) rfl) rfl dX3_hashOfTables_40 ?_
  refine sw_alenI (pc := 43) (v := 5) F 2 rfl rfl dX3_hashOfTables_43 ?_
  refine sw_icmp_ge (pc := 44) (tgt := 66) F dX3_hashOfTables_44 (by decide) (fun c => absurd c (by decide)) (fun _ => ?_)
  refine sw_lload_n (pc := 47) F dX3_hashOfTables_47 rfl 1 rfl ?_
  refine sw_aload_n (pc := 48) F dX3_hashOfTables_48 rfl 2 rfl ?_
  refine sw_get (pc := 49) (Cn := RX3) (T := TX3) (N := 4) (ci := 3) (v := .ref f0) F in3 0 rfl rfl 3 (by decide) rfl (List.mem_of_getElem? (i := 2) rfl) rfl dX3_hashOfTables_49 ?_
  refine sw_iload (pc := 52) F dX3_hashOfTables_52 0 rfl ?_
  refine sw_iald (pc := 54) F 2 rfl (sw_in rfl) dX3_hashOfTables_54 ?_
  refine sw_nami (e := pf 0) rfl (fun x_31 ex_31 => ?_)
  refine sw_i2l (pc := 55) F dX3_hashOfTables_55 rfl ?_
  refine sw_calll (pc := 56) (wr := [(h0, .inr (3, [.int pm, .int pk, .ref d0, .ref f0])), (d0, .inl (G.2.1.1, 6, .inl pd)), (f0, .inl (G.2.1.1, 5, .inl pf))]) (k' := 0) (n' := 0) F (sw_runSN (R := ({ frames := 1, cells := 0, slots := 0, locals := 23 } : Room)) (na := 2) F T.2.1 T.2.2.1 (k_X9_hashed l G r_27 x_31.toInt64) [] rfl (by decide) gX3_hashOfTables_X9_hashed_n74 rfl rfl rfl (List.mem_of_getElem? (i := 4) rfl) (List.mem_of_getElem? (i := 9) rfl) (List.mem_of_getElem? (i := 3) rfl) (by decide +kernel) ⟨Nat.le_of_ble_eq_true rfl, Nat.le_of_ble_eq_true rfl⟩ rfl rfl (Nat.le_of_ble_eq_true rfl) dX3_hashOfTables_56 (Nat.le_of_ble_eq_true rfl) (Nat.le_of_ble_eq_true rfl)) [] [0, 1, 2] rfl rfl (by decide) (by decide) rfl rfl (fun r_32 u_33 h_34 => ?_)
  have e_35 : r_32 = f_X9_hashed_r r_27 x_31.toInt64 := h_34
  refine sw_eq (ws' := [(h0, .inr (3, [.int pm, .int pk, .ref d0, .ref f0])), (d0, .inl (G.2.1.1, 6, .inl pd)), (f0, .inl (G.2.1.1, 5, .inl pf))]) (lv' := [(5, .int 0), (3, .long r_27), (0, .ref h0), (1, .long a)]) (st' := [.long r_32]) rfl rfl rfl ?_
  refine sw_lstore_n (pc := 59) (lv' := [(3, .long r_32), (5, .int 0), (0, .ref h0), (1, .long a)]) F T.1 dX3_hashOfTables_59 rfl (by decide) rfl ?_
  refine sw_iinc (pc := 60) (v := 1) (lv' := [(5, .int 1), (3, .long r_32), (0, .ref h0), (1, .long a)]) F T.1 dX3_hashOfTables_60 (q := 1) rfl rfl (by decide) rfl ?_
  refine sw_goto (pc := 63) (tgt := 37) F dX3_hashOfTables_63 (by decide) ?_
  refine sw_iload (pc := 37) F dX3_hashOfTables_37 0 rfl ?_
  refine sw_aload_n (pc := 39) F dX3_hashOfTables_39 rfl 2 rfl ?_
  refine sw_get (pc := 40) (Cn := RX3) (T := TX3) (N := 4) (ci := 3) (v := .ref f0) F in3 0 rfl rfl 3 (by decide) rfl (List.mem_of_getElem? (i := 2) rfl) rfl dX3_hashOfTables_40 ?_
  refine sw_alenI (pc := 43) (v := 5) F 2 rfl rfl dX3_hashOfTables_43 ?_
  refine sw_icmp_ge (pc := 44) (tgt := 66) F dX3_hashOfTables_44 (by decide) (fun c => absurd c (by decide)) (fun _ => ?_)
  refine sw_lload_n (pc := 47) F dX3_hashOfTables_47 rfl 1 rfl ?_
  refine sw_aload_n (pc := 48) F dX3_hashOfTables_48 rfl 2 rfl ?_
  refine sw_get (pc := 49) (Cn := RX3) (T := TX3) (N := 4) (ci := 3) (v := .ref f0) F in3 0 rfl rfl 3 (by decide) rfl (List.mem_of_getElem? (i := 2) rfl) rfl dX3_hashOfTables_49 ?_
  refine sw_iload (pc := 52) F dX3_hashOfTables_52 0 rfl ?_
  refine sw_iald (pc := 54) F 2 rfl (sw_in rfl) dX3_hashOfTables_54 ?_
  refine sw_nami (e := pf 1) rfl (fun x_36 ex_36 => ?_)
  refine sw_i2l (pc := 55) F dX3_hashOfTables_55 rfl ?_
  refine sw_calll (pc := 56) (wr := [(h0, .inr (3, [.int pm, .int pk, .ref d0, .ref f0])), (d0, .inl (G.2.1.1, 6, .inl pd)), (f0, .inl (G.2.1.1, 5, .inl pf))]) (k' := 0) (n' := 0) F (sw_runSN (R := ({ frames := 1, cells := 0, slots := 0, locals := 23 } : Room)) (na := 2) F T.2.1 T.2.2.1 (k_X9_hashed l G r_32 x_36.toInt64) [] rfl (by decide) gX3_hashOfTables_X9_hashed_n74 rfl rfl rfl (List.mem_of_getElem? (i := 4) rfl) (List.mem_of_getElem? (i := 9) rfl) (List.mem_of_getElem? (i := 3) rfl) (by decide +kernel) ⟨Nat.le_of_ble_eq_true rfl, Nat.le_of_ble_eq_true rfl⟩ rfl rfl (Nat.le_of_ble_eq_true rfl) dX3_hashOfTables_56 (Nat.le_of_ble_eq_true rfl) (Nat.le_of_ble_eq_true rfl)) [] [0, 1, 2] rfl rfl (by decide) (by decide) rfl rfl (fun r_37 u_38 h_39 => ?_)
  have e_40 : r_37 = f_X9_hashed_r r_32 x_36.toInt64 := h_39
  refine sw_eq (ws' := [(h0, .inr (3, [.int pm, .int pk, .ref d0, .ref f0])), (d0, .inl (G.2.1.1, 6, .inl pd)), (f0, .inl (G.2.1.1, 5, .inl pf))]) (lv' := [(5, .int 1), (3, .long r_32), (0, .ref h0), (1, .long a)]) (st' := [.long r_37]) rfl rfl rfl ?_
  refine sw_lstore_n (pc := 59) (lv' := [(3, .long r_37), (5, .int 1), (0, .ref h0), (1, .long a)]) F T.1 dX3_hashOfTables_59 rfl (by decide) rfl ?_
  refine sw_iinc (pc := 60) (v := 2) (lv' := [(5, .int 2), (3, .long r_37), (0, .ref h0), (1, .long a)]) F T.1 dX3_hashOfTables_60 (q := 1) rfl rfl (by decide) rfl ?_
  refine sw_goto (pc := 63) (tgt := 37) F dX3_hashOfTables_63 (by decide) ?_
  refine sw_iload (pc := 37) F dX3_hashOfTables_37 0 rfl ?_
  refine sw_aload_n (pc := 39) F dX3_hashOfTables_39 rfl 2 rfl ?_
  refine sw_get (pc := 40) (Cn := RX3) (T := TX3) (N := 4) (ci := 3) (v := .ref f0) F in3 0 rfl rfl 3 (by decide) rfl (List.mem_of_getElem? (i := 2) rfl) rfl dX3_hashOfTables_40 ?_
  refine sw_alenI (pc := 43) (v := 5) F 2 rfl rfl dX3_hashOfTables_43 ?_
  refine sw_icmp_ge (pc := 44) (tgt := 66) F dX3_hashOfTables_44 (by decide) (fun c => absurd c (by decide)) (fun _ => ?_)
  refine sw_lload_n (pc := 47) F dX3_hashOfTables_47 rfl 1 rfl ?_
  refine sw_aload_n (pc := 48) F dX3_hashOfTables_48 rfl 2 rfl ?_
  refine sw_get (pc := 49) (Cn := RX3) (T := TX3) (N := 4) (ci := 3) (v := .ref f0) F in3 0 rfl rfl 3 (by decide) rfl (List.mem_of_getElem? (i := 2) rfl) rfl dX3_hashOfTables_49 ?_
  refine sw_iload (pc := 52) F dX3_hashOfTables_52 0 rfl ?_
  refine sw_iald (pc := 54) F 2 rfl (sw_in rfl) dX3_hashOfTables_54 ?_
  refine sw_nami (e := pf 2) rfl (fun x_41 ex_41 => ?_)
  refine sw_i2l (pc := 55) F dX3_hashOfTables_55 rfl ?_
  refine sw_calll (pc := 56) (wr := [(h0, .inr (3, [.int pm, .int pk, .ref d0, .ref f0])), (d0, .inl (G.2.1.1, 6, .inl pd)), (f0, .inl (G.2.1.1, 5, .inl pf))]) (k' := 0) (n' := 0) F (sw_runSN (R := ({ frames := 1, cells := 0, slots := 0, locals := 23 } : Room)) (na := 2) F T.2.1 T.2.2.1 (k_X9_hashed l G r_37 x_41.toInt64) [] rfl (by decide) gX3_hashOfTables_X9_hashed_n74 rfl rfl rfl (List.mem_of_getElem? (i := 4) rfl) (List.mem_of_getElem? (i := 9) rfl) (List.mem_of_getElem? (i := 3) rfl) (by decide +kernel) ⟨Nat.le_of_ble_eq_true rfl, Nat.le_of_ble_eq_true rfl⟩ rfl rfl (Nat.le_of_ble_eq_true rfl) dX3_hashOfTables_56 (Nat.le_of_ble_eq_true rfl) (Nat.le_of_ble_eq_true rfl)) [] [0, 1, 2] rfl rfl (by decide) (by decide) rfl rfl (fun r_42 u_43 h_44 => ?_)
  have e_45 : r_42 = f_X9_hashed_r r_37 x_41.toInt64 := h_44
  refine sw_eq (ws' := [(h0, .inr (3, [.int pm, .int pk, .ref d0, .ref f0])), (d0, .inl (G.2.1.1, 6, .inl pd)), (f0, .inl (G.2.1.1, 5, .inl pf))]) (lv' := [(5, .int 2), (3, .long r_37), (0, .ref h0), (1, .long a)]) (st' := [.long r_42]) rfl rfl rfl ?_
  refine sw_lstore_n (pc := 59) (lv' := [(3, .long r_42), (5, .int 2), (0, .ref h0), (1, .long a)]) F T.1 dX3_hashOfTables_59 rfl (by decide) rfl ?_
  refine sw_iinc (pc := 60) (v := 3) (lv' := [(5, .int 3), (3, .long r_42), (0, .ref h0), (1, .long a)]) F T.1 dX3_hashOfTables_60 (q := 1) rfl rfl (by decide) rfl ?_
  refine sw_goto (pc := 63) (tgt := 37) F dX3_hashOfTables_63 (by decide) ?_
  refine sw_iload (pc := 37) F dX3_hashOfTables_37 0 rfl ?_
  refine sw_aload_n (pc := 39) F dX3_hashOfTables_39 rfl 2 rfl ?_
  refine sw_get (pc := 40) (Cn := RX3) (T := TX3) (N := 4) (ci := 3) (v := .ref f0) F in3 0 rfl rfl 3 (by decide) rfl (List.mem_of_getElem? (i := 2) rfl) rfl dX3_hashOfTables_40 ?_
  refine sw_alenI (pc := 43) (v := 5) F 2 rfl rfl dX3_hashOfTables_43 ?_
  refine sw_icmp_ge (pc := 44) (tgt := 66) F dX3_hashOfTables_44 (by decide) (fun c => absurd c (by decide)) (fun _ => ?_)
  refine sw_lload_n (pc := 47) F dX3_hashOfTables_47 rfl 1 rfl ?_
  refine sw_aload_n (pc := 48) F dX3_hashOfTables_48 rfl 2 rfl ?_
  refine sw_get (pc := 49) (Cn := RX3) (T := TX3) (N := 4) (ci := 3) (v := .ref f0) F in3 0 rfl rfl 3 (by decide) rfl (List.mem_of_getElem? (i := 2) rfl) rfl dX3_hashOfTables_49 ?_
  refine sw_iload (pc := 52) F dX3_hashOfTables_52 0 rfl ?_
  refine sw_iald (pc := 54) F 2 rfl (sw_in rfl) dX3_hashOfTables_54 ?_
  refine sw_nami (e := pf 3) rfl (fun x_46 ex_46 => ?_)
  refine sw_i2l (pc := 55) F dX3_hashOfTables_55 rfl ?_
  refine sw_calll (pc := 56) (wr := [(h0, .inr (3, [.int pm, .int pk, .ref d0, .ref f0])), (d0, .inl (G.2.1.1, 6, .inl pd)), (f0, .inl (G.2.1.1, 5, .inl pf))]) (k' := 0) (n' := 0) F (sw_runSN (R := ({ frames := 1, cells := 0, slots := 0, locals := 23 } : Room)) (na := 2) F T.2.1 T.2.2.1 (k_X9_hashed l G r_42 x_46.toInt64) [] rfl (by decide) gX3_hashOfTables_X9_hashed_n74 rfl rfl rfl (List.mem_of_getElem? (i := 4) rfl) (List.mem_of_getElem? (i := 9) rfl) (List.mem_of_getElem? (i := 3) rfl) (by decide +kernel) ⟨Nat.le_of_ble_eq_true rfl, Nat.le_of_ble_eq_true rfl⟩ rfl rfl (Nat.le_of_ble_eq_true rfl) dX3_hashOfTables_56 (Nat.le_of_ble_eq_true rfl) (Nat.le_of_ble_eq_true rfl)) [] [0, 1, 2] rfl rfl (by decide) (by decide) rfl rfl (fun r_47 u_48 h_49 => ?_)
  have e_50 : r_47 = f_X9_hashed_r r_42 x_46.toInt64 := h_49
  refine sw_eq (ws' := [(h0, .inr (3, [.int pm, .int pk, .ref d0, .ref f0])), (d0, .inl (G.2.1.1, 6, .inl pd)), (f0, .inl (G.2.1.1, 5, .inl pf))]) (lv' := [(5, .int 3), (3, .long r_42), (0, .ref h0), (1, .long a)]) (st' := [.long r_47]) rfl rfl rfl ?_
  refine sw_lstore_n (pc := 59) (lv' := [(3, .long r_47), (5, .int 3), (0, .ref h0), (1, .long a)]) F T.1 dX3_hashOfTables_59 rfl (by decide) rfl ?_
  refine sw_iinc (pc := 60) (v := 4) (lv' := [(5, .int 4), (3, .long r_47), (0, .ref h0), (1, .long a)]) F T.1 dX3_hashOfTables_60 (q := 1) rfl rfl (by decide) rfl ?_
  refine sw_goto (pc := 63) (tgt := 37) F dX3_hashOfTables_63 (by decide) ?_
  refine sw_iload (pc := 37) F dX3_hashOfTables_37 0 rfl ?_
  refine sw_aload_n (pc := 39) F dX3_hashOfTables_39 rfl 2 rfl ?_
  refine sw_get (pc := 40) (Cn := RX3) (T := TX3) (N := 4) (ci := 3) (v := .ref f0) F in3 0 rfl rfl 3 (by decide) rfl (List.mem_of_getElem? (i := 2) rfl) rfl dX3_hashOfTables_40 ?_
  refine sw_alenI (pc := 43) (v := 5) F 2 rfl rfl dX3_hashOfTables_43 ?_
  refine sw_icmp_ge (pc := 44) (tgt := 66) F dX3_hashOfTables_44 (by decide) (fun c => absurd c (by decide)) (fun _ => ?_)
  refine sw_lload_n (pc := 47) F dX3_hashOfTables_47 rfl 1 rfl ?_
  refine sw_aload_n (pc := 48) F dX3_hashOfTables_48 rfl 2 rfl ?_
  refine sw_get (pc := 49) (Cn := RX3) (T := TX3) (N := 4) (ci := 3) (v := .ref f0) F in3 0 rfl rfl 3 (by decide) rfl (List.mem_of_getElem? (i := 2) rfl) rfl dX3_hashOfTables_49 ?_
  refine sw_iload (pc := 52) F dX3_hashOfTables_52 0 rfl ?_
  refine sw_iald (pc := 54) F 2 rfl (sw_in rfl) dX3_hashOfTables_54 ?_
  refine sw_nami (e := pf 4) rfl (fun x_51 ex_51 => ?_)
  refine sw_i2l (pc := 55) F dX3_hashOfTables_55 rfl ?_
  refine sw_calll (pc := 56) (wr := [(h0, .inr (3, [.int pm, .int pk, .ref d0, .ref f0])), (d0, .inl (G.2.1.1, 6, .inl pd)), (f0, .inl (G.2.1.1, 5, .inl pf))]) (k' := 0) (n' := 0) F (sw_runSN (R := ({ frames := 1, cells := 0, slots := 0, locals := 23 } : Room)) (na := 2) F T.2.1 T.2.2.1 (k_X9_hashed l G r_47 x_51.toInt64) [] rfl (by decide) gX3_hashOfTables_X9_hashed_n74 rfl rfl rfl (List.mem_of_getElem? (i := 4) rfl) (List.mem_of_getElem? (i := 9) rfl) (List.mem_of_getElem? (i := 3) rfl) (by decide +kernel) ⟨Nat.le_of_ble_eq_true rfl, Nat.le_of_ble_eq_true rfl⟩ rfl rfl (Nat.le_of_ble_eq_true rfl) dX3_hashOfTables_56 (Nat.le_of_ble_eq_true rfl) (Nat.le_of_ble_eq_true rfl)) [] [0, 1, 2] rfl rfl (by decide) (by decide) rfl rfl (fun r_52 u_53 h_54 => ?_)
  have e_55 : r_52 = f_X9_hashed_r r_47 x_51.toInt64 := h_54
  refine sw_eq (ws' := [(h0, .inr (3, [.int pm, .int pk, .ref d0, .ref f0])), (d0, .inl (G.2.1.1, 6, .inl pd)), (f0, .inl (G.2.1.1, 5, .inl pf))]) (lv' := [(5, .int 4), (3, .long r_47), (0, .ref h0), (1, .long a)]) (st' := [.long r_52]) rfl rfl rfl ?_
  refine sw_lstore_n (pc := 59) (lv' := [(3, .long r_52), (5, .int 4), (0, .ref h0), (1, .long a)]) F T.1 dX3_hashOfTables_59 rfl (by decide) rfl ?_
  refine sw_iinc (pc := 60) (v := 5) (lv' := [(5, .int 5), (3, .long r_52), (0, .ref h0), (1, .long a)]) F T.1 dX3_hashOfTables_60 (q := 1) rfl rfl (by decide) rfl ?_
  refine sw_goto (pc := 63) (tgt := 37) F dX3_hashOfTables_63 (by decide) ?_
  refine sw_iload (pc := 37) F dX3_hashOfTables_37 0 rfl ?_
  refine sw_aload_n (pc := 39) F dX3_hashOfTables_39 rfl 2 rfl ?_
  refine sw_get (pc := 40) (Cn := RX3) (T := TX3) (N := 4) (ci := 3) (v := .ref f0) F in3 0 rfl rfl 3 (by decide) rfl (List.mem_of_getElem? (i := 2) rfl) rfl dX3_hashOfTables_40 ?_
  refine sw_alenI (pc := 43) (v := 5) F 2 rfl rfl dX3_hashOfTables_43 ?_
  refine sw_icmp_ge (pc := 44) (tgt := 66) F dX3_hashOfTables_44 (by decide) (fun _ => ?_) (fun c => absurd c (by decide))
  refine sw_lload_n (pc := 66) F dX3_hashOfTables_66 rfl 1 rfl ?_
  subst e_55
  subst ex_51
  subst e_50
  subst ex_46
  subst e_45
  subst ex_41
  subst e_40
  subst ex_36
  subst e_35
  subst ex_31
  subst e_30
  subst ex_26
  subst e_25
  subst ex_21
  subst e_20
  subst ex_16
  subst e_15
  subst ex_11
  subst e_10
  subst ex_6
  subst e_5
  subst ex_1
  exact sw_lret (pc := 67) F T () rfl rfl dX3_hashOfTables_67
