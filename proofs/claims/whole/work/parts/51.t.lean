set_option maxHeartbeats 4000000 in
set_option maxRecDepth 100000 in
theorem kt_X9_needIndex (l : Launch) (G : sw_E) (i : Int32) (q : Int32) (hst : l.stackTraces = false) (h : i < 0 ∨ ¬ i < q) : sx_M l G yX9_needIndex wsX9_needIndex ({ frames := 6, cells := 1, slots := 6, locals := 81 } : Room) [.int i, .int q] [] (sx_QV G) "java/lang/IndexOutOfBoundsException" := by
  refine sx_start (cc := cX9_needIndex) (maxL := 2) (ret := none) (lv := [(0, .int i), (1, .int q)]) (own := RX9) (by decide +kernel) rfl rfl rfl (Nat.le_of_ble_eq_true rfl) (fun C F T => ?_)
  refine sw_iload_n (pc := 0) F dX9_needIndex_0 rfl 0 rfl ?_
  refine sw_if_lt (pc := 1) (tgt := 9) F dX9_needIndex_1 (by decide) (fun c_1 => ?_) (fun c_1 => ?_)
  · skip
    exact sx_throw (pc := 9) (ik := 241) (ic := 243) F T hst rfl (by decide +kernel) (List.mem_of_getElem? (i := 1) rfl) (List.mem_of_getElem? (i := 2) rfl) (fun w h => List.mem_cons_of_mem _ (List.mem_append_right _ h)) (fun w h => List.mem_append_left _ h) (by decide +kernel) dX9_needIndex_9 dX9_needIndex_12 dX9_needIndex_13 dX9_needIndex_16 (Nat.le_of_ble_eq_true rfl) (Nat.le_of_ble_eq_true rfl) (Nat.le_of_ble_eq_true rfl) (Nat.le_of_ble_eq_true rfl) rfl rfl
  · skip
    refine sw_iload_n (pc := 4) F dX9_needIndex_4 rfl 0 rfl ?_
    refine sw_iload_n (pc := 5) F dX9_needIndex_5 rfl 1 rfl ?_
    refine sw_icmp_lt (pc := 6) (tgt := 17) F dX9_needIndex_6 (by decide) (fun c => absurd c (h.resolve_left c_1)) (fun _ => ?_)
    exact sx_throw (pc := 9) (ik := 241) (ic := 243) F T hst rfl (by decide +kernel) (List.mem_of_getElem? (i := 1) rfl) (List.mem_of_getElem? (i := 2) rfl) (fun w h => List.mem_cons_of_mem _ (List.mem_append_right _ h)) (fun w h => List.mem_append_left _ h) (by decide +kernel) dX9_needIndex_9 dX9_needIndex_12 dX9_needIndex_13 dX9_needIndex_16 (Nat.le_of_ble_eq_true rfl) (Nat.le_of_ble_eq_true rfl) (Nat.le_of_ble_eq_true rfl) (Nat.le_of_ble_eq_true rfl) rfl rfl
set_option maxHeartbeats 4000000 in
set_option maxRecDepth 100000 in
theorem kt_X9_needBetween (l : Launch) (G : sw_E) (v : Int64) (a : Int64) (b : Int64) (hst : l.stackTraces = false) (h : v < a ∨ ¬ v ≤ b) : sx_M l G yX9_needBetween wsX9_needBetween ({ frames := 6, cells := 1, slots := 6, locals := 81 } : Room) [.long v, .long a, .long b] [] (sx_QV G) "java/lang/IllegalArgumentException" := by
  refine sx_start (cc := cX9_needBetween) (maxL := 6) (ret := none) (lv := [(0, .long v), (2, .long a), (4, .long b)]) (own := RX9) (by decide +kernel) rfl rfl rfl (Nat.le_of_ble_eq_true rfl) (fun C F T => ?_)
  refine sw_lload_n (pc := 0) F dX9_needBetween_0 rfl 0 rfl ?_
  refine sw_lload_n (pc := 1) F dX9_needBetween_1 rfl 1 rfl ?_
  refine sw_lcmp_lt (pc := 2) (tgt := 13) F dX9_needBetween_2 dX9_needBetween_3 (by decide) (fun c_1 => ?_) (fun c_1 => ?_)
  · skip
    exact sx_throw (pc := 13) (ik := 244) (ic := 246) F T hst rfl (by decide +kernel) (List.mem_of_getElem? (i := 1) rfl) (List.mem_of_getElem? (i := 2) rfl) (fun w h => List.mem_cons_of_mem _ (List.mem_append_right _ h)) (fun w h => List.mem_append_right _ (List.mem_append_left _ h)) (by decide +kernel) dX9_needBetween_13 dX9_needBetween_16 dX9_needBetween_17 dX9_needBetween_20 (Nat.le_of_ble_eq_true rfl) (Nat.le_of_ble_eq_true rfl) (Nat.le_of_ble_eq_true rfl) (Nat.le_of_ble_eq_true rfl) rfl rfl
  · skip
    refine sw_lload_n (pc := 6) F dX9_needBetween_6 rfl 0 rfl ?_
    refine sw_lload (pc := 7) F dX9_needBetween_7 2 rfl ?_
    refine sw_lcmp_le (pc := 9) (tgt := 21) F dX9_needBetween_9 dX9_needBetween_10 (by decide) (fun c => absurd c (h.resolve_left c_1)) (fun _ => ?_)
    exact sx_throw (pc := 13) (ik := 244) (ic := 246) F T hst rfl (by decide +kernel) (List.mem_of_getElem? (i := 1) rfl) (List.mem_of_getElem? (i := 2) rfl) (fun w h => List.mem_cons_of_mem _ (List.mem_append_right _ h)) (fun w h => List.mem_append_right _ (List.mem_append_left _ h)) (by decide +kernel) dX9_needBetween_13 dX9_needBetween_16 dX9_needBetween_17 dX9_needBetween_20 (Nat.le_of_ble_eq_true rfl) (Nat.le_of_ble_eq_true rfl) (Nat.le_of_ble_eq_true rfl) (Nat.le_of_ble_eq_true rfl) rfl rfl
set_option maxHeartbeats 4000000 in
set_option maxRecDepth 100000 in
theorem kt_X9_needState (l : Launch) (G : sw_E) (q : Int32) (hst : l.stackTraces = false) (h : q = 0) : sx_M l G yX9_needState wsX9_needState ({ frames := 6, cells := 1, slots := 6, locals := 81 } : Room) [.int q] [] (sx_QV G) "java/lang/IllegalStateException" := by
  refine sx_start (cc := cX9_needState) (maxL := 1) (ret := none) (lv := [(0, .int q)]) (own := RX9) (by decide +kernel) rfl rfl rfl (Nat.le_of_ble_eq_true rfl) (fun C F T => ?_)
  refine sw_iload_n (pc := 0) F dX9_needState_0 rfl 0 rfl ?_
  refine sw_if_ne (pc := 1) (tgt := 12) F dX9_needState_1 (by decide) (fun c => absurd h c) (fun _ => ?_)
  exact sx_throw (pc := 4) (ik := 247) (ic := 249) F T hst rfl (by decide +kernel) (List.mem_of_getElem? (i := 1) rfl) (List.mem_of_getElem? (i := 2) rfl) (fun w h => List.mem_cons_of_mem _ (List.mem_append_right _ h)) (fun w h => List.mem_append_right _ (List.mem_append_right _ h)) (by decide +kernel) dX9_needState_4 dX9_needState_7 dX9_needState_8 dX9_needState_11 (Nat.le_of_ble_eq_true rfl) (Nat.le_of_ble_eq_true rfl) (Nat.le_of_ble_eq_true rfl) (Nat.le_of_ble_eq_true rfl) rfl rfl
set_option maxHeartbeats 4000000 in
set_option maxRecDepth 100000 in
theorem kt_X9_setSpan_f1 (l : Launch) (G : sw_E) (h : Nat) (t : Int32) (p : Int32) (hst : l.stackTraces = false) (hT : t < 0 ∨ ¬ t < 4) : sx_M l G yX9_setSpan wsX9_setSpan ({ frames := 7, cells := 1, slots := 6, locals := 102 } : Room) [.ref h, .int t, .int p] [] (sx_QI G) "java/lang/IndexOutOfBoundsException" := by
  refine sx_start (cc := cX9_setSpan) (maxL := 5) (ret := some .int) (lv := [(0, .ref h), (1, .int t), (2, .int p)]) (own := RX9) (by decide +kernel) rfl rfl rfl (Nat.le_of_ble_eq_true rfl) (fun C F T => ?_)
  refine sw_iload_n (pc := 0) F dX9_setSpan_0 rfl 1 rfl ?_
  refine sw_iconst (pc := 1) (v := 4) F dX9_setSpan_1 rfl ?_
  exact sx_callv (pc := 2) F T (sx_runS (R := ({ frames := 7, cells := 1, slots := 6, locals := 102 } : Room)) (na := 2) F T.2.2.2.2.1 T.2.1 T.2.2.1 (kt_X9_needIndex l G t 4 hst hT) [] rfl (by decide) gX9_setSpan_X9_needIndex rfl rfl rfl (by decide +kernel) ⟨Nat.le_of_ble_eq_true rfl, Nat.le_of_ble_eq_true rfl⟩ rfl rfl (Nat.le_of_ble_eq_true rfl) dX9_setSpan_2 (Nat.le_of_ble_eq_true rfl) (Nat.le_of_ble_eq_true rfl)) [] rfl rfl rfl
set_option maxHeartbeats 4000000 in
set_option maxRecDepth 100000 in
theorem kt_X9_setSpan_f2 (l : Launch) (G : sw_E) (h : Nat) (t : Int32) (p : Int32) (hst : l.stackTraces = false) (ht0 : ¬ t < 0) (ht1 : t < 4) (hT : p.toInt64 < 100 ∨ ¬ p.toInt64 ≤ 30000) : sx_M l G yX9_setSpan wsX9_setSpan ({ frames := 7, cells := 1, slots := 6, locals := 106 } : Room) [.ref h, .int t, .int p] [] (sx_QI G) "java/lang/IllegalArgumentException" := by
  refine sx_start (cc := cX9_setSpan) (maxL := 5) (ret := some .int) (lv := [(0, .ref h), (1, .int t), (2, .int p)]) (own := RX9) (by decide +kernel) rfl rfl rfl (Nat.le_of_ble_eq_true rfl) (fun C F T => ?_)
  refine sw_iload_n (pc := 0) F dX9_setSpan_0 rfl 1 rfl ?_
  refine sw_iconst (pc := 1) (v := 4) F dX9_setSpan_1 rfl ?_
  refine sw_callv (pc := 2) (wr := []) (k' := 0) (n' := 0) F (sw_runS (R := ({ frames := 7, cells := 1, slots := 6, locals := 106 } : Room)) (na := 2) F T.2.1 T.2.2.1 (k_X9_needIndex l G t 4 (by assumption) (by assumption)) [] rfl (by decide) gX9_setSpan_X9_needIndex rfl rfl rfl (by decide +kernel) ⟨Nat.le_of_ble_eq_true rfl, Nat.le_of_ble_eq_true rfl⟩ rfl rfl (Nat.le_of_ble_eq_true rfl) dX9_setSpan_2 (Nat.le_of_ble_eq_true rfl) (Nat.le_of_ble_eq_true rfl)) [] [] rfl rfl (by decide) (by decide) rfl rfl (fun u_2 h_3 => ?_)
  refine sw_eq (ws' := []) (lv' := [(0, .ref h), (1, .int t), (2, .int p)]) (st' := []) rfl rfl rfl ?_
  refine sw_iload_n (pc := 5) F dX9_setSpan_5 rfl 2 rfl ?_
  refine sw_i2l (pc := 6) F dX9_setSpan_6 rfl ?_
  refine sw_ldc2 (pc := 7) (v := 100) F (List.mem_of_getElem? (i := 1) rfl) dX9_setSpan_7 ?_
  refine sw_ldc2 (pc := 10) (v := 30000) F (List.mem_of_getElem? (i := 2) rfl) dX9_setSpan_10 ?_
  exact sx_callv (pc := 13) F T (sx_runS (R := ({ frames := 7, cells := 1, slots := 6, locals := 106 } : Room)) (na := 3) F T.2.2.2.2.1 T.2.1 T.2.2.1 (kt_X9_needBetween l G p.toInt64 100 30000 hst hT) [] rfl (by decide) gX9_setSpan_X9_needBetween rfl rfl rfl (by decide +kernel) ⟨Nat.le_of_ble_eq_true rfl, Nat.le_of_ble_eq_true rfl⟩ rfl rfl (Nat.le_of_ble_eq_true rfl) dX9_setSpan_13 (Nat.le_of_ble_eq_true rfl) (Nat.le_of_ble_eq_true rfl)) [] rfl rfl rfl
set_option maxHeartbeats 4000000 in
set_option maxRecDepth 100000 in
theorem kt_X9_setDamping_f1 (l : Launch) (G : sw_E) (h : Nat) (t : Int32) (p : Int32) (hst : l.stackTraces = false) (hT : t < 0 ∨ ¬ t < 4) : sx_M l G yX9_setDamping wsX9_setDamping ({ frames := 7, cells := 1, slots := 6, locals := 102 } : Room) [.ref h, .int t, .int p] [] (sx_QI G) "java/lang/IndexOutOfBoundsException" := by
  refine sx_start (cc := cX9_setDamping) (maxL := 5) (ret := some .int) (lv := [(0, .ref h), (1, .int t), (2, .int p)]) (own := RX9) (by decide +kernel) rfl rfl rfl (Nat.le_of_ble_eq_true rfl) (fun C F T => ?_)
  refine sw_iload_n (pc := 0) F dX9_setDamping_0 rfl 1 rfl ?_
  refine sw_iconst (pc := 1) (v := 4) F dX9_setDamping_1 rfl ?_
  exact sx_callv (pc := 2) F T (sx_runS (R := ({ frames := 7, cells := 1, slots := 6, locals := 102 } : Room)) (na := 2) F T.2.2.2.2.1 T.2.1 T.2.2.1 (kt_X9_needIndex l G t 4 hst hT) [] rfl (by decide) gX9_setDamping_X9_needIndex rfl rfl rfl (by decide +kernel) ⟨Nat.le_of_ble_eq_true rfl, Nat.le_of_ble_eq_true rfl⟩ rfl rfl (Nat.le_of_ble_eq_true rfl) dX9_setDamping_2 (Nat.le_of_ble_eq_true rfl) (Nat.le_of_ble_eq_true rfl)) [] rfl rfl rfl
set_option maxHeartbeats 4000000 in
set_option maxRecDepth 100000 in
theorem kt_X9_setDamping_f2 (l : Launch) (G : sw_E) (h : Nat) (t : Int32) (p : Int32) (hst : l.stackTraces = false) (ht0 : ¬ t < 0) (ht1 : t < 4) (hT : p.toInt64 < 0 ∨ ¬ p.toInt64 ≤ 8) : sx_M l G yX9_setDamping wsX9_setDamping ({ frames := 7, cells := 1, slots := 6, locals := 106 } : Room) [.ref h, .int t, .int p] [] (sx_QI G) "java/lang/IllegalArgumentException" := by
  refine sx_start (cc := cX9_setDamping) (maxL := 5) (ret := some .int) (lv := [(0, .ref h), (1, .int t), (2, .int p)]) (own := RX9) (by decide +kernel) rfl rfl rfl (Nat.le_of_ble_eq_true rfl) (fun C F T => ?_)
  refine sw_iload_n (pc := 0) F dX9_setDamping_0 rfl 1 rfl ?_
  refine sw_iconst (pc := 1) (v := 4) F dX9_setDamping_1 rfl ?_
  refine sw_callv (pc := 2) (wr := []) (k' := 0) (n' := 0) F (sw_runS (R := ({ frames := 7, cells := 1, slots := 6, locals := 106 } : Room)) (na := 2) F T.2.1 T.2.2.1 (k_X9_needIndex l G t 4 (by assumption) (by assumption)) [] rfl (by decide) gX9_setDamping_X9_needIndex rfl rfl rfl (by decide +kernel) ⟨Nat.le_of_ble_eq_true rfl, Nat.le_of_ble_eq_true rfl⟩ rfl rfl (Nat.le_of_ble_eq_true rfl) dX9_setDamping_2 (Nat.le_of_ble_eq_true rfl) (Nat.le_of_ble_eq_true rfl)) [] [] rfl rfl (by decide) (by decide) rfl rfl (fun u_2 h_3 => ?_)
  refine sw_eq (ws' := []) (lv' := [(0, .ref h), (1, .int t), (2, .int p)]) (st' := []) rfl rfl rfl ?_
  refine sw_iload_n (pc := 5) F dX9_setDamping_5 rfl 2 rfl ?_
  refine sw_i2l (pc := 6) F dX9_setDamping_6 rfl ?_
  refine sw_lconst (pc := 7) (v := 0) F dX9_setDamping_7 rfl ?_
  refine sw_ldc2 (pc := 8) (v := 8) F (List.mem_of_getElem? (i := 1) rfl) dX9_setDamping_8 ?_
  exact sx_callv (pc := 11) F T (sx_runS (R := ({ frames := 7, cells := 1, slots := 6, locals := 106 } : Room)) (na := 3) F T.2.2.2.2.1 T.2.1 T.2.2.1 (kt_X9_needBetween l G p.toInt64 0 8 hst hT) [] rfl (by decide) gX9_setDamping_X9_needBetween rfl rfl rfl (by decide +kernel) ⟨Nat.le_of_ble_eq_true rfl, Nat.le_of_ble_eq_true rfl⟩ rfl rfl (Nat.le_of_ble_eq_true rfl) dX9_setDamping_11 (Nat.le_of_ble_eq_true rfl) (Nat.le_of_ble_eq_true rfl)) [] rfl rfl rfl
set_option maxHeartbeats 4000000 in
set_option maxRecDepth 100000 in
theorem kt_X9_setRaw_f1 (l : Launch) (G : sw_E) (h : Nat) (t : Int32) (p : Int32) (hst : l.stackTraces = false) (hT : t < 0 ∨ ¬ t < 4) : sx_M l G yX9_setRaw wsX9_setRaw ({ frames := 7, cells := 1, slots := 6, locals := 102 } : Room) [.ref h, .int t, .int p] [] (sx_QI G) "java/lang/IndexOutOfBoundsException" := by
  refine sx_start (cc := cX9_setRaw) (maxL := 4) (ret := some .int) (lv := [(0, .ref h), (1, .int t), (2, .int p)]) (own := RX9) (by decide +kernel) rfl rfl rfl (Nat.le_of_ble_eq_true rfl) (fun C F T => ?_)
  refine sw_iload_n (pc := 0) F dX9_setRaw_0 rfl 1 rfl ?_
  refine sw_iconst (pc := 1) (v := 4) F dX9_setRaw_1 rfl ?_
  exact sx_callv (pc := 2) F T (sx_runS (R := ({ frames := 7, cells := 1, slots := 6, locals := 102 } : Room)) (na := 2) F T.2.2.2.2.1 T.2.1 T.2.2.1 (kt_X9_needIndex l G t 4 hst hT) [] rfl (by decide) gX9_setRaw_X9_needIndex rfl rfl rfl (by decide +kernel) ⟨Nat.le_of_ble_eq_true rfl, Nat.le_of_ble_eq_true rfl⟩ rfl rfl (Nat.le_of_ble_eq_true rfl) dX9_setRaw_2 (Nat.le_of_ble_eq_true rfl) (Nat.le_of_ble_eq_true rfl)) [] rfl rfl rfl
set_option maxHeartbeats 4000000 in
set_option maxRecDepth 100000 in
theorem kt_X9_setRaw_f2 (l : Launch) (G : sw_E) (h : Nat) (t : Int32) (p : Int32) (hst : l.stackTraces = false) (ht0 : ¬ t < 0) (ht1 : t < 4) (hT : p.toInt64 < 0 ∨ ¬ p.toInt64 ≤ 65535) : sx_M l G yX9_setRaw wsX9_setRaw ({ frames := 7, cells := 1, slots := 6, locals := 106 } : Room) [.ref h, .int t, .int p] [] (sx_QI G) "java/lang/IllegalArgumentException" := by
  refine sx_start (cc := cX9_setRaw) (maxL := 4) (ret := some .int) (lv := [(0, .ref h), (1, .int t), (2, .int p)]) (own := RX9) (by decide +kernel) rfl rfl rfl (Nat.le_of_ble_eq_true rfl) (fun C F T => ?_)
  refine sw_iload_n (pc := 0) F dX9_setRaw_0 rfl 1 rfl ?_
  refine sw_iconst (pc := 1) (v := 4) F dX9_setRaw_1 rfl ?_
  refine sw_callv (pc := 2) (wr := []) (k' := 0) (n' := 0) F (sw_runS (R := ({ frames := 7, cells := 1, slots := 6, locals := 106 } : Room)) (na := 2) F T.2.1 T.2.2.1 (k_X9_needIndex l G t 4 (by assumption) (by assumption)) [] rfl (by decide) gX9_setRaw_X9_needIndex rfl rfl rfl (by decide +kernel) ⟨Nat.le_of_ble_eq_true rfl, Nat.le_of_ble_eq_true rfl⟩ rfl rfl (Nat.le_of_ble_eq_true rfl) dX9_setRaw_2 (Nat.le_of_ble_eq_true rfl) (Nat.le_of_ble_eq_true rfl)) [] [] rfl rfl (by decide) (by decide) rfl rfl (fun u_2 h_3 => ?_)
  refine sw_eq (ws' := []) (lv' := [(0, .ref h), (1, .int t), (2, .int p)]) (st' := []) rfl rfl rfl ?_
  refine sw_iload_n (pc := 5) F dX9_setRaw_5 rfl 2 rfl ?_
  refine sw_i2l (pc := 6) F dX9_setRaw_6 rfl ?_
  refine sw_lconst (pc := 7) (v := 0) F dX9_setRaw_7 rfl ?_
  refine sw_ldc2 (pc := 8) (v := 65535) F (List.mem_of_getElem? (i := 1) rfl) dX9_setRaw_8 ?_
  exact sx_callv (pc := 11) F T (sx_runS (R := ({ frames := 7, cells := 1, slots := 6, locals := 106 } : Room)) (na := 3) F T.2.2.2.2.1 T.2.1 T.2.2.1 (kt_X9_needBetween l G p.toInt64 0 65535 hst hT) [] rfl (by decide) gX9_setRaw_X9_needBetween rfl rfl rfl (by decide +kernel) ⟨Nat.le_of_ble_eq_true rfl, Nat.le_of_ble_eq_true rfl⟩ rfl rfl (Nat.le_of_ble_eq_true rfl) dX9_setRaw_11 (Nat.le_of_ble_eq_true rfl) (Nat.le_of_ble_eq_true rfl)) [] rfl rfl rfl
set_option maxHeartbeats 4000000 in
set_option maxRecDepth 100000 in
theorem kt_X9_transmitter_f1 (l : Launch) (G : sw_E) (h : Nat) (t : Int32) (p : Int32) (hst : l.stackTraces = false) (hT : t < 0 ∨ ¬ t < 4) : sx_M l G yX9_transmitter wsX9_transmitter ({ frames := 7, cells := 1, slots := 6, locals := 102 } : Room) [.ref h, .int t, .int p] [] (sx_QI G) "java/lang/IndexOutOfBoundsException" := by
  refine sx_start (cc := cX9_transmitter) (maxL := 4) (ret := some .int) (lv := [(0, .ref h), (1, .int t), (2, .int p)]) (own := RX9) (by decide +kernel) rfl rfl rfl (Nat.le_of_ble_eq_true rfl) (fun C F T => ?_)
  refine sw_iload_n (pc := 0) F dX9_transmitter_0 rfl 1 rfl ?_
  refine sw_iconst (pc := 1) (v := 4) F dX9_transmitter_1 rfl ?_
  exact sx_callv (pc := 2) F T (sx_runS (R := ({ frames := 7, cells := 1, slots := 6, locals := 102 } : Room)) (na := 2) F T.2.2.2.2.1 T.2.1 T.2.2.1 (kt_X9_needIndex l G t 4 hst hT) [] rfl (by decide) gX9_transmitter_X9_needIndex rfl rfl rfl (by decide +kernel) ⟨Nat.le_of_ble_eq_true rfl, Nat.le_of_ble_eq_true rfl⟩ rfl rfl (Nat.le_of_ble_eq_true rfl) dX9_transmitter_2 (Nat.le_of_ble_eq_true rfl) (Nat.le_of_ble_eq_true rfl)) [] rfl rfl rfl
set_option maxHeartbeats 4000000 in
set_option maxRecDepth 100000 in
theorem kt_X9_transmitter_f2 (l : Launch) (G : sw_E) (h : Nat) (t : Int32) (p : Int32) (hst : l.stackTraces = false) (ht0 : ¬ t < 0) (ht1 : t < 4) (hT : p.toInt64 < 0 ∨ ¬ p.toInt64 ≤ 3) : sx_M l G yX9_transmitter wsX9_transmitter ({ frames := 7, cells := 1, slots := 6, locals := 106 } : Room) [.ref h, .int t, .int p] [] (sx_QI G) "java/lang/IllegalArgumentException" := by
  refine sx_start (cc := cX9_transmitter) (maxL := 4) (ret := some .int) (lv := [(0, .ref h), (1, .int t), (2, .int p)]) (own := RX9) (by decide +kernel) rfl rfl rfl (Nat.le_of_ble_eq_true rfl) (fun C F T => ?_)
  refine sw_iload_n (pc := 0) F dX9_transmitter_0 rfl 1 rfl ?_
  refine sw_iconst (pc := 1) (v := 4) F dX9_transmitter_1 rfl ?_
  refine sw_callv (pc := 2) (wr := []) (k' := 0) (n' := 0) F (sw_runS (R := ({ frames := 7, cells := 1, slots := 6, locals := 106 } : Room)) (na := 2) F T.2.1 T.2.2.1 (k_X9_needIndex l G t 4 (by assumption) (by assumption)) [] rfl (by decide) gX9_transmitter_X9_needIndex rfl rfl rfl (by decide +kernel) ⟨Nat.le_of_ble_eq_true rfl, Nat.le_of_ble_eq_true rfl⟩ rfl rfl (Nat.le_of_ble_eq_true rfl) dX9_transmitter_2 (Nat.le_of_ble_eq_true rfl) (Nat.le_of_ble_eq_true rfl)) [] [] rfl rfl (by decide) (by decide) rfl rfl (fun u_2 h_3 => ?_)
  refine sw_eq (ws' := []) (lv' := [(0, .ref h), (1, .int t), (2, .int p)]) (st' := []) rfl rfl rfl ?_
  refine sw_iload_n (pc := 5) F dX9_transmitter_5 rfl 2 rfl ?_
  refine sw_i2l (pc := 6) F dX9_transmitter_6 rfl ?_
  refine sw_lconst (pc := 7) (v := 0) F dX9_transmitter_7 rfl ?_
  refine sw_ldc2 (pc := 8) (v := 3) F (List.mem_of_getElem? (i := 1) rfl) dX9_transmitter_8 ?_
  exact sx_callv (pc := 11) F T (sx_runS (R := ({ frames := 7, cells := 1, slots := 6, locals := 106 } : Room)) (na := 3) F T.2.2.2.2.1 T.2.1 T.2.2.1 (kt_X9_needBetween l G p.toInt64 0 3 hst hT) [] rfl (by decide) gX9_transmitter_X9_needBetween rfl rfl rfl (by decide +kernel) ⟨Nat.le_of_ble_eq_true rfl, Nat.le_of_ble_eq_true rfl⟩ rfl rfl (Nat.le_of_ble_eq_true rfl) dX9_transmitter_11 (Nat.le_of_ble_eq_true rfl) (Nat.le_of_ble_eq_true rfl)) [] rfl rfl rfl
set_option maxHeartbeats 4000000 in
set_option maxRecDepth 100000 in
theorem kt_X9_setDensity_f1 (l : Launch) (G : sw_E) (h : Nat) (t : Int32) (p : Int32) (hst : l.stackTraces = false) (hT : t < 0 ∨ ¬ t < 6) : sx_M l G yX9_setDensity wsX9_setDensity ({ frames := 7, cells := 1, slots := 6, locals := 102 } : Room) [.ref h, .int t, .int p] [] (sx_QI G) "java/lang/IndexOutOfBoundsException" := by
  refine sx_start (cc := cX9_setDensity) (maxL := 4) (ret := some .int) (lv := [(0, .ref h), (1, .int t), (2, .int p)]) (own := RX9) (by decide +kernel) rfl rfl rfl (Nat.le_of_ble_eq_true rfl) (fun C F T => ?_)
  refine sw_iload_n (pc := 0) F dX9_setDensity_0 rfl 1 rfl ?_
  refine sw_bipush (pc := 1) (v := 6) F dX9_setDensity_1 rfl ?_
  exact sx_callv (pc := 3) F T (sx_runS (R := ({ frames := 7, cells := 1, slots := 6, locals := 102 } : Room)) (na := 2) F T.2.2.2.2.1 T.2.1 T.2.2.1 (kt_X9_needIndex l G t 6 hst hT) [] rfl (by decide) gX9_setDensity_X9_needIndex rfl rfl rfl (by decide +kernel) ⟨Nat.le_of_ble_eq_true rfl, Nat.le_of_ble_eq_true rfl⟩ rfl rfl (Nat.le_of_ble_eq_true rfl) dX9_setDensity_3 (Nat.le_of_ble_eq_true rfl) (Nat.le_of_ble_eq_true rfl)) [] rfl rfl rfl
set_option maxHeartbeats 4000000 in
set_option maxRecDepth 100000 in
theorem kt_X9_setDensity_f2 (l : Launch) (G : sw_E) (h : Nat) (t : Int32) (p : Int32) (hst : l.stackTraces = false) (ht0 : ¬ t < 0) (ht1 : t < 6) (hT : p.toInt64 < 1 ∨ ¬ p.toInt64 ≤ 20000) : sx_M l G yX9_setDensity wsX9_setDensity ({ frames := 7, cells := 1, slots := 6, locals := 106 } : Room) [.ref h, .int t, .int p] [] (sx_QI G) "java/lang/IllegalArgumentException" := by
  refine sx_start (cc := cX9_setDensity) (maxL := 4) (ret := some .int) (lv := [(0, .ref h), (1, .int t), (2, .int p)]) (own := RX9) (by decide +kernel) rfl rfl rfl (Nat.le_of_ble_eq_true rfl) (fun C F T => ?_)
  refine sw_iload_n (pc := 0) F dX9_setDensity_0 rfl 1 rfl ?_
  refine sw_bipush (pc := 1) (v := 6) F dX9_setDensity_1 rfl ?_
  refine sw_callv (pc := 3) (wr := []) (k' := 0) (n' := 0) F (sw_runS (R := ({ frames := 7, cells := 1, slots := 6, locals := 106 } : Room)) (na := 2) F T.2.1 T.2.2.1 (k_X9_needIndex l G t 6 (by assumption) (by assumption)) [] rfl (by decide) gX9_setDensity_X9_needIndex rfl rfl rfl (by decide +kernel) ⟨Nat.le_of_ble_eq_true rfl, Nat.le_of_ble_eq_true rfl⟩ rfl rfl (Nat.le_of_ble_eq_true rfl) dX9_setDensity_3 (Nat.le_of_ble_eq_true rfl) (Nat.le_of_ble_eq_true rfl)) [] [] rfl rfl (by decide) (by decide) rfl rfl (fun u_2 h_3 => ?_)
  refine sw_eq (ws' := []) (lv' := [(0, .ref h), (1, .int t), (2, .int p)]) (st' := []) rfl rfl rfl ?_
  refine sw_iload_n (pc := 6) F dX9_setDensity_6 rfl 2 rfl ?_
  refine sw_i2l (pc := 7) F dX9_setDensity_7 rfl ?_
  refine sw_lconst (pc := 8) (v := 1) F dX9_setDensity_8 rfl ?_
  refine sw_ldc2 (pc := 9) (v := 20000) F (List.mem_of_getElem? (i := 1) rfl) dX9_setDensity_9 ?_
  exact sx_callv (pc := 12) F T (sx_runS (R := ({ frames := 7, cells := 1, slots := 6, locals := 106 } : Room)) (na := 3) F T.2.2.2.2.1 T.2.1 T.2.2.1 (kt_X9_needBetween l G p.toInt64 1 20000 hst hT) [] rfl (by decide) gX9_setDensity_X9_needBetween rfl rfl rfl (by decide +kernel) ⟨Nat.le_of_ble_eq_true rfl, Nat.le_of_ble_eq_true rfl⟩ rfl rfl (Nat.le_of_ble_eq_true rfl) dX9_setDensity_12 (Nat.le_of_ble_eq_true rfl) (Nat.le_of_ble_eq_true rfl)) [] rfl rfl rfl
set_option maxHeartbeats 4000000 in
set_option maxRecDepth 100000 in
theorem kt_X9_setFactor_f1 (l : Launch) (G : sw_E) (h : Nat) (t : Int32) (p : Int32) (hst : l.stackTraces = false) (hT : t < 0 ∨ ¬ t < 5) : sx_M l G yX9_setFactor wsX9_setFactor ({ frames := 7, cells := 1, slots := 6, locals := 102 } : Room) [.ref h, .int t, .int p] [] (sx_QI G) "java/lang/IndexOutOfBoundsException" := by
  refine sx_start (cc := cX9_setFactor) (maxL := 4) (ret := some .int) (lv := [(0, .ref h), (1, .int t), (2, .int p)]) (own := RX9) (by decide +kernel) rfl rfl rfl (Nat.le_of_ble_eq_true rfl) (fun C F T => ?_)
  refine sw_iload_n (pc := 0) F dX9_setFactor_0 rfl 1 rfl ?_
  refine sw_iconst (pc := 1) (v := 5) F dX9_setFactor_1 rfl ?_
  exact sx_callv (pc := 2) F T (sx_runS (R := ({ frames := 7, cells := 1, slots := 6, locals := 102 } : Room)) (na := 2) F T.2.2.2.2.1 T.2.1 T.2.2.1 (kt_X9_needIndex l G t 5 hst hT) [] rfl (by decide) gX9_setFactor_X9_needIndex rfl rfl rfl (by decide +kernel) ⟨Nat.le_of_ble_eq_true rfl, Nat.le_of_ble_eq_true rfl⟩ rfl rfl (Nat.le_of_ble_eq_true rfl) dX9_setFactor_2 (Nat.le_of_ble_eq_true rfl) (Nat.le_of_ble_eq_true rfl)) [] rfl rfl rfl
set_option maxHeartbeats 4000000 in
set_option maxRecDepth 100000 in
theorem kt_X9_setFactor_f2 (l : Launch) (G : sw_E) (h : Nat) (t : Int32) (p : Int32) (hst : l.stackTraces = false) (ht0 : ¬ t < 0) (ht1 : t < 5) (hT : p.toInt64 < 9000 ∨ ¬ p.toInt64 ≤ 11000) : sx_M l G yX9_setFactor wsX9_setFactor ({ frames := 7, cells := 1, slots := 6, locals := 106 } : Room) [.ref h, .int t, .int p] [] (sx_QI G) "java/lang/IllegalArgumentException" := by
  refine sx_start (cc := cX9_setFactor) (maxL := 4) (ret := some .int) (lv := [(0, .ref h), (1, .int t), (2, .int p)]) (own := RX9) (by decide +kernel) rfl rfl rfl (Nat.le_of_ble_eq_true rfl) (fun C F T => ?_)
  refine sw_iload_n (pc := 0) F dX9_setFactor_0 rfl 1 rfl ?_
  refine sw_iconst (pc := 1) (v := 5) F dX9_setFactor_1 rfl ?_
  refine sw_callv (pc := 2) (wr := []) (k' := 0) (n' := 0) F (sw_runS (R := ({ frames := 7, cells := 1, slots := 6, locals := 106 } : Room)) (na := 2) F T.2.1 T.2.2.1 (k_X9_needIndex l G t 5 (by assumption) (by assumption)) [] rfl (by decide) gX9_setFactor_X9_needIndex rfl rfl rfl (by decide +kernel) ⟨Nat.le_of_ble_eq_true rfl, Nat.le_of_ble_eq_true rfl⟩ rfl rfl (Nat.le_of_ble_eq_true rfl) dX9_setFactor_2 (Nat.le_of_ble_eq_true rfl) (Nat.le_of_ble_eq_true rfl)) [] [] rfl rfl (by decide) (by decide) rfl rfl (fun u_2 h_3 => ?_)
  refine sw_eq (ws' := []) (lv' := [(0, .ref h), (1, .int t), (2, .int p)]) (st' := []) rfl rfl rfl ?_
  refine sw_iload_n (pc := 5) F dX9_setFactor_5 rfl 2 rfl ?_
  refine sw_i2l (pc := 6) F dX9_setFactor_6 rfl ?_
  refine sw_ldc2 (pc := 7) (v := 9000) F (List.mem_of_getElem? (i := 1) rfl) dX9_setFactor_7 ?_
  refine sw_ldc2 (pc := 10) (v := 11000) F (List.mem_of_getElem? (i := 2) rfl) dX9_setFactor_10 ?_
  exact sx_callv (pc := 13) F T (sx_runS (R := ({ frames := 7, cells := 1, slots := 6, locals := 106 } : Room)) (na := 3) F T.2.2.2.2.1 T.2.1 T.2.2.1 (kt_X9_needBetween l G p.toInt64 9000 11000 hst hT) [] rfl (by decide) gX9_setFactor_X9_needBetween rfl rfl rfl (by decide +kernel) ⟨Nat.le_of_ble_eq_true rfl, Nat.le_of_ble_eq_true rfl⟩ rfl rfl (Nat.le_of_ble_eq_true rfl) dX9_setFactor_13 (Nat.le_of_ble_eq_true rfl) (Nat.le_of_ble_eq_true rfl)) [] rfl rfl rfl
set_option maxHeartbeats 4000000 in
set_option maxRecDepth 100000 in
theorem kt_X9_setMode_f1 (l : Launch) (G : sw_E) (h : Nat) (p : Int32) (hst : l.stackTraces = false) (hT : p.toInt64 < 0 ∨ ¬ p.toInt64 ≤ 1) : sx_M l G yX9_setMode wsX9_setMode ({ frames := 7, cells := 1, slots := 6, locals := 106 } : Room) [.ref h, .int p] [] (sx_QI G) "java/lang/IllegalArgumentException" := by
  refine sx_start (cc := cX9_setMode) (maxL := 3) (ret := some .int) (lv := [(0, .ref h), (1, .int p)]) (own := RX9) (by decide +kernel) rfl rfl rfl (Nat.le_of_ble_eq_true rfl) (fun C F T => ?_)
  refine sw_iload_n (pc := 0) F dX9_setMode_0 rfl 1 rfl ?_
  refine sw_i2l (pc := 1) F dX9_setMode_1 rfl ?_
  refine sw_lconst (pc := 2) (v := 0) F dX9_setMode_2 rfl ?_
  refine sw_lconst (pc := 3) (v := 1) F dX9_setMode_3 rfl ?_
  exact sx_callv (pc := 4) F T (sx_runS (R := ({ frames := 7, cells := 1, slots := 6, locals := 106 } : Room)) (na := 3) F T.2.2.2.2.1 T.2.1 T.2.2.1 (kt_X9_needBetween l G p.toInt64 0 1 hst hT) [] rfl (by decide) gX9_setMode_X9_needBetween rfl rfl rfl (by decide +kernel) ⟨Nat.le_of_ble_eq_true rfl, Nat.le_of_ble_eq_true rfl⟩ rfl rfl (Nat.le_of_ble_eq_true rfl) dX9_setMode_4 (Nat.le_of_ble_eq_true rfl) (Nat.le_of_ble_eq_true rfl)) [] rfl rfl rfl
set_option maxHeartbeats 4000000 in
set_option maxRecDepth 100000 in
theorem kt_X9_setMeter_f1 (l : Launch) (G : sw_E) (h : Nat) (p : Int32) (hst : l.stackTraces = false) (hT : p.toInt64 < 1 ∨ ¬ p.toInt64 ≤ 100000) : sx_M l G yX9_setMeter wsX9_setMeter ({ frames := 7, cells := 1, slots := 6, locals := 106 } : Room) [.ref h, .int p] [] (sx_QI G) "java/lang/IllegalArgumentException" := by
  refine sx_start (cc := cX9_setMeter) (maxL := 3) (ret := some .int) (lv := [(0, .ref h), (1, .int p)]) (own := RX9) (by decide +kernel) rfl rfl rfl (Nat.le_of_ble_eq_true rfl) (fun C F T => ?_)
  refine sw_iload_n (pc := 0) F dX9_setMeter_0 rfl 1 rfl ?_
  refine sw_i2l (pc := 1) F dX9_setMeter_1 rfl ?_
  refine sw_lconst (pc := 2) (v := 1) F dX9_setMeter_2 rfl ?_
  refine sw_ldc2 (pc := 3) (v := 100000) F (List.mem_of_getElem? (i := 1) rfl) dX9_setMeter_3 ?_
  exact sx_callv (pc := 6) F T (sx_runS (R := ({ frames := 7, cells := 1, slots := 6, locals := 106 } : Room)) (na := 3) F T.2.2.2.2.1 T.2.1 T.2.2.1 (kt_X9_needBetween l G p.toInt64 1 100000 hst hT) [] rfl (by decide) gX9_setMeter_X9_needBetween rfl rfl rfl (by decide +kernel) ⟨Nat.le_of_ble_eq_true rfl, Nat.le_of_ble_eq_true rfl⟩ rfl rfl (Nat.le_of_ble_eq_true rfl) dX9_setMeter_6 (Nat.le_of_ble_eq_true rfl) (Nat.le_of_ble_eq_true rfl)) [] rfl rfl rfl
set_option maxHeartbeats 4000000 in
set_option maxRecDepth 100000 in
theorem kt_X9_setContractHour_f1 (l : Launch) (G : sw_E) (h : Nat) (p : Int32) (hst : l.stackTraces = false) (hT : p.toInt64 < 0 ∨ ¬ p.toInt64 ≤ 23) : sx_M l G yX9_setContractHour wsX9_setContractHour ({ frames := 7, cells := 1, slots := 6, locals := 106 } : Room) [.ref h, .int p] [] (sx_QI G) "java/lang/IllegalArgumentException" := by
  refine sx_start (cc := cX9_setContractHour) (maxL := 3) (ret := some .int) (lv := [(0, .ref h), (1, .int p)]) (own := RX9) (by decide +kernel) rfl rfl rfl (Nat.le_of_ble_eq_true rfl) (fun C F T => ?_)
  refine sw_iload_n (pc := 0) F dX9_setContractHour_0 rfl 1 rfl ?_
  refine sw_i2l (pc := 1) F dX9_setContractHour_1 rfl ?_
  refine sw_lconst (pc := 2) (v := 0) F dX9_setContractHour_2 rfl ?_
  refine sw_ldc2 (pc := 3) (v := 23) F (List.mem_of_getElem? (i := 1) rfl) dX9_setContractHour_3 ?_
  exact sx_callv (pc := 6) F T (sx_runS (R := ({ frames := 7, cells := 1, slots := 6, locals := 106 } : Room)) (na := 3) F T.2.2.2.2.1 T.2.1 T.2.2.1 (kt_X9_needBetween l G p.toInt64 0 23 hst hT) [] rfl (by decide) gX9_setContractHour_X9_needBetween rfl rfl rfl (by decide +kernel) ⟨Nat.le_of_ble_eq_true rfl, Nat.le_of_ble_eq_true rfl⟩ rfl rfl (Nat.le_of_ble_eq_true rfl) dX9_setContractHour_6 (Nat.le_of_ble_eq_true rfl) (Nat.le_of_ble_eq_true rfl)) [] rfl rfl rfl
set_option maxHeartbeats 4000000 in
set_option maxRecDepth 100000 in
theorem kt_X9_run_f1 (l : Launch) (G : sw_E) (h : Nat) (p : Int32) (hst : l.stackTraces = false) (hT : p.toInt64 < 1 ∨ ¬ p.toInt64 ≤ 20000) : sx_M l G yX9_run wsX9_run ({ frames := 7, cells := 1, slots := 6, locals := 106 } : Room) [.ref h, .int p] [] (sx_QL G) "java/lang/IllegalArgumentException" := by
  refine sx_start (cc := cX9_run) (maxL := 5) (ret := some .long) (lv := [(0, .ref h), (1, .int p)]) (own := RX9) (by decide +kernel) rfl rfl rfl (Nat.le_of_ble_eq_true rfl) (fun C F T => ?_)
  refine sw_iload_n (pc := 0) F dX9_run_0 rfl 1 rfl ?_
  refine sw_i2l (pc := 1) F dX9_run_1 rfl ?_
  refine sw_lconst (pc := 2) (v := 1) F dX9_run_2 rfl ?_
  refine sw_ldc2 (pc := 3) (v := 20000) F (List.mem_of_getElem? (i := 1) rfl) dX9_run_3 ?_
  exact sx_callv (pc := 6) F T (sx_runS (R := ({ frames := 7, cells := 1, slots := 6, locals := 106 } : Room)) (na := 3) F T.2.2.2.2.1 T.2.1 T.2.2.1 (kt_X9_needBetween l G p.toInt64 1 20000 hst hT) [] rfl (by decide) gX9_run_X9_needBetween rfl rfl rfl (by decide +kernel) ⟨Nat.le_of_ble_eq_true rfl, Nat.le_of_ble_eq_true rfl⟩ rfl rfl (Nat.le_of_ble_eq_true rfl) dX9_run_6 (Nat.le_of_ble_eq_true rfl) (Nat.le_of_ble_eq_true rfl)) [] rfl rfl rfl
set_option maxHeartbeats 4000000 in
set_option maxRecDepth 100000 in
theorem kt_X9_total_f1 (l : Launch) (G : sw_E) (h : Nat) (p : Int32) (hst : l.stackTraces = false) (hT : p.toInt64 < 0 ∨ ¬ p.toInt64 ≤ 3) : sx_M l G yX9_total wsX9_total ({ frames := 7, cells := 1, slots := 6, locals := 106 } : Room) [.ref h, .int p] [] (sx_QL G) "java/lang/IllegalArgumentException" := by
  refine sx_start (cc := cX9_total) (maxL := 2) (ret := some .long) (lv := [(0, .ref h), (1, .int p)]) (own := RX9) (by decide +kernel) rfl rfl rfl (Nat.le_of_ble_eq_true rfl) (fun C F T => ?_)
  refine sw_iload_n (pc := 0) F dX9_total_0 rfl 1 rfl ?_
  refine sw_i2l (pc := 1) F dX9_total_1 rfl ?_
  refine sw_lconst (pc := 2) (v := 0) F dX9_total_2 rfl ?_
  refine sw_ldc2 (pc := 3) (v := 3) F (List.mem_of_getElem? (i := 1) rfl) dX9_total_3 ?_
  exact sx_callv (pc := 6) F T (sx_runS (R := ({ frames := 7, cells := 1, slots := 6, locals := 106 } : Room)) (na := 3) F T.2.2.2.2.1 T.2.1 T.2.2.1 (kt_X9_needBetween l G p.toInt64 0 3 hst hT) [] rfl (by decide) gX9_total_X9_needBetween rfl rfl rfl (by decide +kernel) ⟨Nat.le_of_ble_eq_true rfl, Nat.le_of_ble_eq_true rfl⟩ rfl rfl (Nat.le_of_ble_eq_true rfl) dX9_total_6 (Nat.le_of_ble_eq_true rfl) (Nat.le_of_ble_eq_true rfl)) [] rfl rfl rfl
set_option maxHeartbeats 4000000 in
set_option maxRecDepth 100000 in
theorem kt_X9_setCutoff_f1 (l : Launch) (G : sw_E) (h : Nat) (p : Int32) (q : Int32) (hst : l.stackTraces = false) (hT : q.toInt64 < 0 ∨ ¬ q.toInt64 ≤ 100000) : sx_M l G yX9_setCutoff wsX9_setCutoff ({ frames := 7, cells := 1, slots := 6, locals := 106 } : Room) [.ref h, .int p, .int q] [] (sx_QI G) "java/lang/IllegalArgumentException" := by
  refine sx_start (cc := cX9_setCutoff) (maxL := 4) (ret := some .int) (lv := [(0, .ref h), (1, .int p), (2, .int q)]) (own := RX9) (by decide +kernel) rfl rfl rfl (Nat.le_of_ble_eq_true rfl) (fun C F T => ?_)
  refine sw_iload_n (pc := 0) F dX9_setCutoff_0 rfl 2 rfl ?_
  refine sw_i2l (pc := 1) F dX9_setCutoff_1 rfl ?_
  refine sw_lconst (pc := 2) (v := 0) F dX9_setCutoff_2 rfl ?_
  refine sw_ldc2 (pc := 3) (v := 100000) F (List.mem_of_getElem? (i := 1) rfl) dX9_setCutoff_3 ?_
  exact sx_callv (pc := 6) F T (sx_runS (R := ({ frames := 7, cells := 1, slots := 6, locals := 106 } : Room)) (na := 3) F T.2.2.2.2.1 T.2.1 T.2.2.1 (kt_X9_needBetween l G q.toInt64 0 100000 hst hT) [] rfl (by decide) gX9_setCutoff_X9_needBetween rfl rfl rfl (by decide +kernel) ⟨Nat.le_of_ble_eq_true rfl, Nat.le_of_ble_eq_true rfl⟩ rfl rfl (Nat.le_of_ble_eq_true rfl) dX9_setCutoff_6 (Nat.le_of_ble_eq_true rfl) (Nat.le_of_ble_eq_true rfl)) [] rfl rfl rfl
set_option maxHeartbeats 4000000 in
set_option maxRecDepth 100000 in
theorem kt_X9_setCutoff_f1b (l : Launch) (G : sw_E) (h : Nat) (p : Int32) (q : Int32) (hst : l.stackTraces = false) (hp0 : ¬ q.toInt64 < 0) (hp1 : q.toInt64 ≤ 100000) (hT : p.toInt64 < 0 ∨ ¬ p.toInt64 ≤ q.toInt64) : sx_M l G yX9_setCutoff wsX9_setCutoff ({ frames := 7, cells := 1, slots := 6, locals := 106 } : Room) [.ref h, .int p, .int q] [] (sx_QI G) "java/lang/IllegalArgumentException" := by
  refine sx_start (cc := cX9_setCutoff) (maxL := 4) (ret := some .int) (lv := [(0, .ref h), (1, .int p), (2, .int q)]) (own := RX9) (by decide +kernel) rfl rfl rfl (Nat.le_of_ble_eq_true rfl) (fun C F T => ?_)
  refine sw_iload_n (pc := 0) F dX9_setCutoff_0 rfl 2 rfl ?_
  refine sw_i2l (pc := 1) F dX9_setCutoff_1 rfl ?_
  refine sw_lconst (pc := 2) (v := 0) F dX9_setCutoff_2 rfl ?_
  refine sw_ldc2 (pc := 3) (v := 100000) F (List.mem_of_getElem? (i := 1) rfl) dX9_setCutoff_3 ?_
  refine sw_callv (pc := 6) (wr := []) (k' := 0) (n' := 0) F (sw_runS (R := ({ frames := 7, cells := 1, slots := 6, locals := 106 } : Room)) (na := 3) F T.2.1 T.2.2.1 (k_X9_needBetween l G q.toInt64 0 100000 (by assumption) (by assumption)) [] rfl (by decide) gX9_setCutoff_X9_needBetween rfl rfl rfl (by decide +kernel) ⟨Nat.le_of_ble_eq_true rfl, Nat.le_of_ble_eq_true rfl⟩ rfl rfl (Nat.le_of_ble_eq_true rfl) dX9_setCutoff_6 (Nat.le_of_ble_eq_true rfl) (Nat.le_of_ble_eq_true rfl)) [] [] rfl rfl (by decide) (by decide) rfl rfl (fun u_2 h_3 => ?_)
  refine sw_eq (ws' := []) (lv' := [(0, .ref h), (1, .int p), (2, .int q)]) (st' := []) rfl rfl rfl ?_
  refine sw_iload_n (pc := 9) F dX9_setCutoff_9 rfl 1 rfl ?_
  refine sw_i2l (pc := 10) F dX9_setCutoff_10 rfl ?_
  refine sw_lconst (pc := 11) (v := 0) F dX9_setCutoff_11 rfl ?_
  refine sw_iload_n (pc := 12) F dX9_setCutoff_12 rfl 2 rfl ?_
  refine sw_i2l (pc := 13) F dX9_setCutoff_13 rfl ?_
  exact sx_callv (pc := 14) F T (sx_runS (R := ({ frames := 7, cells := 1, slots := 6, locals := 106 } : Room)) (na := 3) F T.2.2.2.2.1 T.2.1 T.2.2.1 (kt_X9_needBetween l G p.toInt64 0 q.toInt64 hst hT) [] rfl (by decide) gX9_setCutoff_X9_needBetween rfl rfl rfl (by decide +kernel) ⟨Nat.le_of_ble_eq_true rfl, Nat.le_of_ble_eq_true rfl⟩ rfl rfl (Nat.le_of_ble_eq_true rfl) dX9_setCutoff_14 (Nat.le_of_ble_eq_true rfl) (Nat.le_of_ble_eq_true rfl)) [] rfl rfl rfl
set_option maxHeartbeats 4000000 in
set_option maxRecDepth 100000 in
theorem kt_X9_openBatch_f1 (l : Launch) (G : sw_E) (h : Nat) (p : Int32) (q : Int32) (hst : l.stackTraces = false) (hT : p.toInt64 < 1 ∨ ¬ p.toInt64 ≤ 1000000000) : sx_M l G yX9_openBatch wsX9_openBatch ({ frames := 7, cells := 1, slots := 6, locals := 106 } : Room) [.ref h, .int p, .int q] [] (sx_QI G) "java/lang/IllegalArgumentException" := by
  refine sx_start (cc := cX9_openBatch) (maxL := 3) (ret := some .int) (lv := [(0, .ref h), (1, .int p), (2, .int q)]) (own := RX9) (by decide +kernel) rfl rfl rfl (Nat.le_of_ble_eq_true rfl) (fun C F T => ?_)
  refine sw_iload_n (pc := 0) F dX9_openBatch_0 rfl 1 rfl ?_
  refine sw_i2l (pc := 1) F dX9_openBatch_1 rfl ?_
  refine sw_lconst (pc := 2) (v := 1) F dX9_openBatch_2 rfl ?_
  refine sw_ldc2 (pc := 3) (v := 1000000000) F (List.mem_of_getElem? (i := 1) rfl) dX9_openBatch_3 ?_
  exact sx_callv (pc := 6) F T (sx_runS (R := ({ frames := 7, cells := 1, slots := 6, locals := 106 } : Room)) (na := 3) F T.2.2.2.2.1 T.2.1 T.2.2.1 (kt_X9_needBetween l G p.toInt64 1 1000000000 hst hT) [] rfl (by decide) gX9_openBatch_X9_needBetween rfl rfl rfl (by decide +kernel) ⟨Nat.le_of_ble_eq_true rfl, Nat.le_of_ble_eq_true rfl⟩ rfl rfl (Nat.le_of_ble_eq_true rfl) dX9_openBatch_6 (Nat.le_of_ble_eq_true rfl) (Nat.le_of_ble_eq_true rfl)) [] rfl rfl rfl
set_option maxHeartbeats 4000000 in
set_option maxRecDepth 100000 in
theorem kt_X9_openBatch_f1b (l : Launch) (G : sw_E) (h : Nat) (p : Int32) (q : Int32) (hst : l.stackTraces = false) (hp0 : ¬ p.toInt64 < 1) (hp1 : p.toInt64 ≤ 1000000000) (hT : q.toInt64 < 0 ∨ ¬ q.toInt64 ≤ 1000000000) : sx_M l G yX9_openBatch wsX9_openBatch ({ frames := 7, cells := 1, slots := 6, locals := 106 } : Room) [.ref h, .int p, .int q] [] (sx_QI G) "java/lang/IllegalArgumentException" := by
  refine sx_start (cc := cX9_openBatch) (maxL := 3) (ret := some .int) (lv := [(0, .ref h), (1, .int p), (2, .int q)]) (own := RX9) (by decide +kernel) rfl rfl rfl (Nat.le_of_ble_eq_true rfl) (fun C F T => ?_)
  refine sw_iload_n (pc := 0) F dX9_openBatch_0 rfl 1 rfl ?_
  refine sw_i2l (pc := 1) F dX9_openBatch_1 rfl ?_
  refine sw_lconst (pc := 2) (v := 1) F dX9_openBatch_2 rfl ?_
  refine sw_ldc2 (pc := 3) (v := 1000000000) F (List.mem_of_getElem? (i := 1) rfl) dX9_openBatch_3 ?_
  refine sw_callv (pc := 6) (wr := []) (k' := 0) (n' := 0) F (sw_runS (R := ({ frames := 7, cells := 1, slots := 6, locals := 106 } : Room)) (na := 3) F T.2.1 T.2.2.1 (k_X9_needBetween l G p.toInt64 1 1000000000 (by assumption) (by assumption)) [] rfl (by decide) gX9_openBatch_X9_needBetween rfl rfl rfl (by decide +kernel) ⟨Nat.le_of_ble_eq_true rfl, Nat.le_of_ble_eq_true rfl⟩ rfl rfl (Nat.le_of_ble_eq_true rfl) dX9_openBatch_6 (Nat.le_of_ble_eq_true rfl) (Nat.le_of_ble_eq_true rfl)) [] [] rfl rfl (by decide) (by decide) rfl rfl (fun u_2 h_3 => ?_)
  refine sw_eq (ws' := []) (lv' := [(0, .ref h), (1, .int p), (2, .int q)]) (st' := []) rfl rfl rfl ?_
  refine sw_iload_n (pc := 9) F dX9_openBatch_9 rfl 2 rfl ?_
  refine sw_i2l (pc := 10) F dX9_openBatch_10 rfl ?_
  refine sw_lconst (pc := 11) (v := 0) F dX9_openBatch_11 rfl ?_
  refine sw_ldc2 (pc := 12) (v := 1000000000) F (List.mem_of_getElem? (i := 1) rfl) dX9_openBatch_12 ?_
  exact sx_callv (pc := 15) F T (sx_runS (R := ({ frames := 7, cells := 1, slots := 6, locals := 106 } : Room)) (na := 3) F T.2.2.2.2.1 T.2.1 T.2.2.1 (kt_X9_needBetween l G q.toInt64 0 1000000000 hst hT) [] rfl (by decide) gX9_openBatch_X9_needBetween rfl rfl rfl (by decide +kernel) ⟨Nat.le_of_ble_eq_true rfl, Nat.le_of_ble_eq_true rfl⟩ rfl rfl (Nat.le_of_ble_eq_true rfl) dX9_openBatch_15 (Nat.le_of_ble_eq_true rfl) (Nat.le_of_ble_eq_true rfl)) [] rfl rfl rfl
set_option maxHeartbeats 4000000 in
set_option maxRecDepth 100000 in
theorem kt_X9_openBatch_f2 (l : Launch) (G : sw_E) (h : Nat) (n : Nat → Nat) (bq : Nat) (cq : Nat) (f : Nat → Nat) (sv : Int32) (x : XS) (p : Int32) (q : Int32) (hst : l.stackTraces = false) (hp0 : ¬ p.toInt64 < 1) (hp1 : p.toInt64 ≤ 1000000000) (hq0 : ¬ q.toInt64 < 0) (hq1 : q.toInt64 ≤ 1000000000) (ho : ¬ x.1 31 = 0) : sx_M l G yX9_openBatch wsX9_openBatch ({ frames := 7, cells := 1, slots := 6, locals := 101 } : Room) [.ref h, .int p, .int q] [(h, .inr (9, [.ref (n 0), .ref bq, .ref cq, .ref (f 0), .int sv])), (n 0, .inr (6, [.int (x.1 0), .int (x.1 1), .ref (n 1), .ref (n 2), .ref (n 3), .ref (n 4), .int (x.1 2), .int (x.1 3), .int (x.1 4), .ref (n 5), .ref (n 8), .long (x.2.1 0), .long (x.2.1 1), .long (x.2.1 2), .ref (n 9), .ref (n 10), .ref (n 13), .ref (n 14), .ref (n 15), .ref (n 16)])), (n 9, .inr (0, [.int (x.1 30), .int (x.1 31), .int (x.1 32), .int (x.1 33), .long (x.2.1 3), .int (x.1 34)]))] (sx_QI G) "java/lang/IllegalStateException" := by
  refine sx_start (cc := cX9_openBatch) (maxL := 3) (ret := some .int) (lv := [(0, .ref h), (1, .int p), (2, .int q)]) (own := RX9) (by decide +kernel) rfl rfl rfl (Nat.le_of_ble_eq_true rfl) (fun C F T => ?_)
  have in0 : ∀ w ∈ u_ws RX0 TX0 6, w ∈ wsX9_openBatch := fun w h => List.mem_cons_of_mem _ (List.mem_append_left _ (List.mem_append_left _ (List.mem_append_left _ (List.mem_append_left _ (List.mem_append_left _ (List.mem_append_left _ (List.mem_append_left _ (List.mem_append_left _ (List.mem_append_left _ (List.mem_append_right _ (h)))))))))))
  have in6 : ∀ w ∈ u_ws RX6 TX6 20, w ∈ wsX9_openBatch := fun w h => List.mem_cons_of_mem _ (List.mem_append_left _ (List.mem_append_left _ (List.mem_append_left _ (List.mem_append_left _ (List.mem_append_left _ (List.mem_append_left _ (List.mem_append_left _ (List.mem_append_left _ (List.mem_append_left _ (List.mem_append_left _ (List.mem_append_right _ (h))))))))))))
  have in9 : ∀ w ∈ u_ws RX9 TX9 5, w ∈ wsX9_openBatch := fun w h => List.mem_cons_of_mem _ (List.mem_append_left _ (List.mem_append_left _ (List.mem_append_left _ (List.mem_append_left _ (List.mem_append_left _ (List.mem_append_left _ (List.mem_append_left _ (List.mem_append_left _ (List.mem_append_left _ (List.mem_append_left _ (List.mem_append_left _ (List.mem_append_right _ (h)))))))))))))
  refine sw_iload_n (pc := 0) F dX9_openBatch_0 rfl 1 rfl ?_
  refine sw_i2l (pc := 1) F dX9_openBatch_1 rfl ?_
  refine sw_lconst (pc := 2) (v := 1) F dX9_openBatch_2 rfl ?_
  refine sw_ldc2 (pc := 3) (v := 1000000000) F (List.mem_of_getElem? (i := 1) rfl) dX9_openBatch_3 ?_
  refine sw_callv (pc := 6) (wr := [(h, .inr (9, [.ref (n 0), .ref bq, .ref cq, .ref (f 0), .int sv])), (n 0, .inr (6, [.int (x.1 0), .int (x.1 1), .ref (n 1), .ref (n 2), .ref (n 3), .ref (n 4), .int (x.1 2), .int (x.1 3), .int (x.1 4), .ref (n 5), .ref (n 8), .long (x.2.1 0), .long (x.2.1 1), .long (x.2.1 2), .ref (n 9), .ref (n 10), .ref (n 13), .ref (n 14), .ref (n 15), .ref (n 16)])), (n 9, .inr (0, [.int (x.1 30), .int (x.1 31), .int (x.1 32), .int (x.1 33), .long (x.2.1 3), .int (x.1 34)]))]) (k' := 0) (n' := 0) F (sw_runS (R := ({ frames := 7, cells := 1, slots := 6, locals := 101 } : Room)) (na := 3) F T.2.1 T.2.2.1 (k_X9_needBetween l G p.toInt64 1 1000000000 (by assumption) (by assumption)) [] rfl (by decide) gX9_openBatch_X9_needBetween rfl rfl rfl (by decide +kernel) ⟨Nat.le_of_ble_eq_true rfl, Nat.le_of_ble_eq_true rfl⟩ rfl rfl (Nat.le_of_ble_eq_true rfl) dX9_openBatch_6 (Nat.le_of_ble_eq_true rfl) (Nat.le_of_ble_eq_true rfl)) [] [0, 1, 2] rfl rfl (by decide) (by decide) rfl rfl (fun u_2 h_3 => ?_)
  refine sw_eq (ws' := [(h, .inr (9, [.ref (n 0), .ref bq, .ref cq, .ref (f 0), .int sv])), (n 0, .inr (6, [.int (x.1 0), .int (x.1 1), .ref (n 1), .ref (n 2), .ref (n 3), .ref (n 4), .int (x.1 2), .int (x.1 3), .int (x.1 4), .ref (n 5), .ref (n 8), .long (x.2.1 0), .long (x.2.1 1), .long (x.2.1 2), .ref (n 9), .ref (n 10), .ref (n 13), .ref (n 14), .ref (n 15), .ref (n 16)])), (n 9, .inr (0, [.int (x.1 30), .int (x.1 31), .int (x.1 32), .int (x.1 33), .long (x.2.1 3), .int (x.1 34)]))]) (lv' := [(0, .ref h), (1, .int p), (2, .int q)]) (st' := []) rfl rfl rfl ?_
  refine sw_iload_n (pc := 9) F dX9_openBatch_9 rfl 2 rfl ?_
  refine sw_i2l (pc := 10) F dX9_openBatch_10 rfl ?_
  refine sw_lconst (pc := 11) (v := 0) F dX9_openBatch_11 rfl ?_
  refine sw_ldc2 (pc := 12) (v := 1000000000) F (List.mem_of_getElem? (i := 1) rfl) dX9_openBatch_12 ?_
  refine sw_callv (pc := 15) (wr := [(h, .inr (9, [.ref (n 0), .ref bq, .ref cq, .ref (f 0), .int sv])), (n 0, .inr (6, [.int (x.1 0), .int (x.1 1), .ref (n 1), .ref (n 2), .ref (n 3), .ref (n 4), .int (x.1 2), .int (x.1 3), .int (x.1 4), .ref (n 5), .ref (n 8), .long (x.2.1 0), .long (x.2.1 1), .long (x.2.1 2), .ref (n 9), .ref (n 10), .ref (n 13), .ref (n 14), .ref (n 15), .ref (n 16)])), (n 9, .inr (0, [.int (x.1 30), .int (x.1 31), .int (x.1 32), .int (x.1 33), .long (x.2.1 3), .int (x.1 34)]))]) (k' := 0) (n' := 0) F (sw_runS (R := ({ frames := 7, cells := 1, slots := 6, locals := 101 } : Room)) (na := 3) F T.2.1 T.2.2.1 (k_X9_needBetween l G q.toInt64 0 1000000000 (by assumption) (by assumption)) [] rfl (by decide) gX9_openBatch_X9_needBetween rfl rfl rfl (by decide +kernel) ⟨Nat.le_of_ble_eq_true rfl, Nat.le_of_ble_eq_true rfl⟩ rfl rfl (Nat.le_of_ble_eq_true rfl) dX9_openBatch_15 (Nat.le_of_ble_eq_true rfl) (Nat.le_of_ble_eq_true rfl)) [] [0, 1, 2] rfl rfl (by decide) (by decide) rfl rfl (fun u_5 h_6 => ?_)
  refine sw_eq (ws' := [(h, .inr (9, [.ref (n 0), .ref bq, .ref cq, .ref (f 0), .int sv])), (n 0, .inr (6, [.int (x.1 0), .int (x.1 1), .ref (n 1), .ref (n 2), .ref (n 3), .ref (n 4), .int (x.1 2), .int (x.1 3), .int (x.1 4), .ref (n 5), .ref (n 8), .long (x.2.1 0), .long (x.2.1 1), .long (x.2.1 2), .ref (n 9), .ref (n 10), .ref (n 13), .ref (n 14), .ref (n 15), .ref (n 16)])), (n 9, .inr (0, [.int (x.1 30), .int (x.1 31), .int (x.1 32), .int (x.1 33), .long (x.2.1 3), .int (x.1 34)]))]) (lv' := [(0, .ref h), (1, .int p), (2, .int q)]) (st' := []) rfl rfl rfl ?_
  refine sw_aload_n (pc := 18) F dX9_openBatch_18 rfl 0 rfl ?_
  refine sw_get (pc := 19) (Cn := RX9) (T := TX9) (N := 5) (ci := 9) (v := .ref (n 0)) F in9 0 rfl rfl 0 (by decide) rfl (List.mem_of_getElem? (i := 2) rfl) rfl dX9_openBatch_19 ?_
  refine sw_get (pc := 22) (Cn := RX6) (T := TX6) (N := 20) (ci := 6) (v := .ref (n 9)) F in6 1 rfl rfl 14 (by decide) rfl (List.mem_of_getElem? (i := 3) rfl) rfl dX9_openBatch_22 ?_
  refine sw_get (pc := 25) (Cn := RX0) (T := TX0) (N := 6) (ci := 0) (v := .int (x.1 31)) F in0 2 rfl rfl 1 (by decide) rfl (List.mem_of_getElem? (i := 4) rfl) rfl dX9_openBatch_25 ?_
  refine sw_if_ne (pc := 28) (tgt := 35) F dX9_openBatch_28 (by decide) (fun _ => ?_) (fun c => absurd c ho)
  refine sw_iconst (pc := 35) (v := 0) F dX9_openBatch_35 rfl ?_
  exact sx_callv (pc := 36) F T (sx_runS (R := ({ frames := 7, cells := 1, slots := 6, locals := 101 } : Room)) (na := 1) F T.2.2.2.2.1 T.2.1 T.2.2.1 (kt_X9_needState l G 0 hst rfl) [] rfl (by decide) gX9_openBatch_X9_needState rfl rfl rfl (by decide +kernel) ⟨Nat.le_of_ble_eq_true rfl, Nat.le_of_ble_eq_true rfl⟩ rfl rfl (Nat.le_of_ble_eq_true rfl) dX9_openBatch_36 (Nat.le_of_ble_eq_true rfl) (Nat.le_of_ble_eq_true rfl)) [] rfl rfl rfl
set_option maxHeartbeats 4000000 in
set_option maxRecDepth 100000 in
theorem kt_X9_closeBatch_f1 (l : Launch) (G : sw_E) (h : Nat) (n : Nat → Nat) (bq : Nat) (cq : Nat) (f : Nat → Nat) (sv : Int32) (x : XS) (hst : l.stackTraces = false) (hT : x.1 31 = 0) : sx_M l G yX9_closeBatch wsX9_closeBatch ({ frames := 7, cells := 1, slots := 6, locals := 101 } : Room) [.ref h] [(h, .inr (9, [.ref (n 0), .ref bq, .ref cq, .ref (f 0), .int sv])), (n 0, .inr (6, [.int (x.1 0), .int (x.1 1), .ref (n 1), .ref (n 2), .ref (n 3), .ref (n 4), .int (x.1 2), .int (x.1 3), .int (x.1 4), .ref (n 5), .ref (n 8), .long (x.2.1 0), .long (x.2.1 1), .long (x.2.1 2), .ref (n 9), .ref (n 10), .ref (n 13), .ref (n 14), .ref (n 15), .ref (n 16)])), (n 9, .inr (0, [.int (x.1 30), .int (x.1 31), .int (x.1 32), .int (x.1 33), .long (x.2.1 3), .int (x.1 34)]))] (sx_QL G) "java/lang/IllegalStateException" := by
  refine sx_start (cc := cX9_closeBatch) (maxL := 1) (ret := some .long) (lv := [(0, .ref h)]) (own := RX9) (by decide +kernel) rfl rfl rfl (Nat.le_of_ble_eq_true rfl) (fun C F T => ?_)
  have in0 : ∀ w ∈ u_ws RX0 TX0 6, w ∈ wsX9_closeBatch := fun w h => List.mem_cons_of_mem _ (List.mem_append_left _ (List.mem_append_left _ (List.mem_append_left _ (List.mem_append_left _ (List.mem_append_left _ (List.mem_append_left _ (List.mem_append_left _ (List.mem_append_left _ (List.mem_append_right _ (h))))))))))
  have in6 : ∀ w ∈ u_ws RX6 TX6 20, w ∈ wsX9_closeBatch := fun w h => List.mem_cons_of_mem _ (List.mem_append_left _ (List.mem_append_left _ (List.mem_append_left _ (List.mem_append_left _ (List.mem_append_left _ (List.mem_append_left _ (List.mem_append_left _ (List.mem_append_left _ (List.mem_append_left _ (List.mem_append_right _ (h)))))))))))
  have in9 : ∀ w ∈ u_ws RX9 TX9 5, w ∈ wsX9_closeBatch := fun w h => List.mem_cons_of_mem _ (List.mem_append_left _ (List.mem_append_left _ (List.mem_append_left _ (List.mem_append_left _ (List.mem_append_left _ (List.mem_append_left _ (List.mem_append_left _ (List.mem_append_left _ (List.mem_append_left _ (List.mem_append_left _ (List.mem_append_right _ (h))))))))))))
  refine sw_aload_n (pc := 0) F dX9_closeBatch_0 rfl 0 rfl ?_
  refine sw_get (pc := 1) (Cn := RX9) (T := TX9) (N := 5) (ci := 9) (v := .ref (n 0)) F in9 0 rfl rfl 0 (by decide) rfl (List.mem_of_getElem? (i := 1) rfl) rfl dX9_closeBatch_1 ?_
  refine sw_get (pc := 4) (Cn := RX6) (T := TX6) (N := 20) (ci := 6) (v := .ref (n 9)) F in6 1 rfl rfl 14 (by decide) rfl (List.mem_of_getElem? (i := 2) rfl) rfl dX9_closeBatch_4 ?_
  refine sw_get (pc := 7) (Cn := RX0) (T := TX0) (N := 6) (ci := 0) (v := .int (x.1 31)) F in0 2 rfl rfl 1 (by decide) rfl (List.mem_of_getElem? (i := 3) rfl) rfl dX9_closeBatch_7 ?_
  exact sx_callv (pc := 10) F T (sx_runS (R := ({ frames := 7, cells := 1, slots := 6, locals := 101 } : Room)) (na := 1) F T.2.2.2.2.1 T.2.1 T.2.2.1 (kt_X9_needState l G (x.1 31) hst hT) [] rfl (by decide) gX9_closeBatch_X9_needState rfl rfl rfl (by decide +kernel) ⟨Nat.le_of_ble_eq_true rfl, Nat.le_of_ble_eq_true rfl⟩ rfl rfl (Nat.le_of_ble_eq_true rfl) dX9_closeBatch_10 (Nat.le_of_ble_eq_true rfl) (Nat.le_of_ble_eq_true rfl)) [] rfl rfl rfl
set_option maxHeartbeats 4000000 in
set_option maxRecDepth 100000 in
theorem kt_X9_flowFor_f1 (l : Launch) (G : sw_E) (h : Nat) (p : Int32) (q : Int32) (s : Int32) (hst : l.stackTraces = false) (hT : p.toInt64 < 0 ∨ ¬ p.toInt64 ≤ 30000) : sx_M l G yX9_flowFor wsX9_flowFor ({ frames := 7, cells := 1, slots := 6, locals := 106 } : Room) [.ref h, .int p, .int q, .int s] [] (sx_QL G) "java/lang/IllegalArgumentException" := by
  refine sx_start (cc := cX9_flowFor) (maxL := 4) (ret := some .long) (lv := [(0, .ref h), (1, .int p), (2, .int q), (3, .int s)]) (own := RX9) (by decide +kernel) rfl rfl rfl (Nat.le_of_ble_eq_true rfl) (fun C F T => ?_)
  refine sw_iload_n (pc := 0) F dX9_flowFor_0 rfl 1 rfl ?_
  refine sw_i2l (pc := 1) F dX9_flowFor_1 rfl ?_
  refine sw_lconst (pc := 2) (v := 0) F dX9_flowFor_2 rfl ?_
  refine sw_ldc2 (pc := 3) (v := 30000) F (List.mem_of_getElem? (i := 1) rfl) dX9_flowFor_3 ?_
  exact sx_callv (pc := 6) F T (sx_runS (R := ({ frames := 7, cells := 1, slots := 6, locals := 106 } : Room)) (na := 3) F T.2.2.2.2.1 T.2.1 T.2.2.1 (kt_X9_needBetween l G p.toInt64 0 30000 hst hT) [] rfl (by decide) gX9_flowFor_X9_needBetween rfl rfl rfl (by decide +kernel) ⟨Nat.le_of_ble_eq_true rfl, Nat.le_of_ble_eq_true rfl⟩ rfl rfl (Nat.le_of_ble_eq_true rfl) dX9_flowFor_6 (Nat.le_of_ble_eq_true rfl) (Nat.le_of_ble_eq_true rfl)) [] rfl rfl rfl
set_option maxHeartbeats 4000000 in
set_option maxRecDepth 100000 in
theorem kt_X9_flowFor_f1b (l : Launch) (G : sw_E) (h : Nat) (p : Int32) (q : Int32) (s : Int32) (hst : l.stackTraces = false) (hp0 : ¬ p.toInt64 < 0) (hp1 : p.toInt64 ≤ 30000) (hT : q.toInt64 < 0 ∨ ¬ q.toInt64 ≤ 30000) : sx_M l G yX9_flowFor wsX9_flowFor ({ frames := 7, cells := 1, slots := 6, locals := 106 } : Room) [.ref h, .int p, .int q, .int s] [] (sx_QL G) "java/lang/IllegalArgumentException" := by
  refine sx_start (cc := cX9_flowFor) (maxL := 4) (ret := some .long) (lv := [(0, .ref h), (1, .int p), (2, .int q), (3, .int s)]) (own := RX9) (by decide +kernel) rfl rfl rfl (Nat.le_of_ble_eq_true rfl) (fun C F T => ?_)
  refine sw_iload_n (pc := 0) F dX9_flowFor_0 rfl 1 rfl ?_
  refine sw_i2l (pc := 1) F dX9_flowFor_1 rfl ?_
  refine sw_lconst (pc := 2) (v := 0) F dX9_flowFor_2 rfl ?_
  refine sw_ldc2 (pc := 3) (v := 30000) F (List.mem_of_getElem? (i := 1) rfl) dX9_flowFor_3 ?_
  refine sw_callv (pc := 6) (wr := []) (k' := 0) (n' := 0) F (sw_runS (R := ({ frames := 7, cells := 1, slots := 6, locals := 106 } : Room)) (na := 3) F T.2.1 T.2.2.1 (k_X9_needBetween l G p.toInt64 0 30000 (by assumption) (by assumption)) [] rfl (by decide) gX9_flowFor_X9_needBetween rfl rfl rfl (by decide +kernel) ⟨Nat.le_of_ble_eq_true rfl, Nat.le_of_ble_eq_true rfl⟩ rfl rfl (Nat.le_of_ble_eq_true rfl) dX9_flowFor_6 (Nat.le_of_ble_eq_true rfl) (Nat.le_of_ble_eq_true rfl)) [] [] rfl rfl (by decide) (by decide) rfl rfl (fun u_2 h_3 => ?_)
  refine sw_eq (ws' := []) (lv' := [(0, .ref h), (1, .int p), (2, .int q), (3, .int s)]) (st' := []) rfl rfl rfl ?_
  refine sw_iload_n (pc := 9) F dX9_flowFor_9 rfl 2 rfl ?_
  refine sw_i2l (pc := 10) F dX9_flowFor_10 rfl ?_
  refine sw_lconst (pc := 11) (v := 0) F dX9_flowFor_11 rfl ?_
  refine sw_ldc2 (pc := 12) (v := 30000) F (List.mem_of_getElem? (i := 1) rfl) dX9_flowFor_12 ?_
  exact sx_callv (pc := 15) F T (sx_runS (R := ({ frames := 7, cells := 1, slots := 6, locals := 106 } : Room)) (na := 3) F T.2.2.2.2.1 T.2.1 T.2.2.1 (kt_X9_needBetween l G q.toInt64 0 30000 hst hT) [] rfl (by decide) gX9_flowFor_X9_needBetween rfl rfl rfl (by decide +kernel) ⟨Nat.le_of_ble_eq_true rfl, Nat.le_of_ble_eq_true rfl⟩ rfl rfl (Nat.le_of_ble_eq_true rfl) dX9_flowFor_15 (Nat.le_of_ble_eq_true rfl) (Nat.le_of_ble_eq_true rfl)) [] rfl rfl rfl
set_option maxHeartbeats 4000000 in
set_option maxRecDepth 100000 in
theorem kt_X9_flowFor_f1c (l : Launch) (G : sw_E) (h : Nat) (p : Int32) (q : Int32) (s : Int32) (hst : l.stackTraces = false) (hp0 : ¬ p.toInt64 < 0) (hp1 : p.toInt64 ≤ 30000) (hq0 : ¬ q.toInt64 < 0) (hq1 : q.toInt64 ≤ 30000) (hT : s.toInt64 < (-500) ∨ ¬ s.toInt64 ≤ 3000) : sx_M l G yX9_flowFor wsX9_flowFor ({ frames := 7, cells := 1, slots := 6, locals := 106 } : Room) [.ref h, .int p, .int q, .int s] [] (sx_QL G) "java/lang/IllegalArgumentException" := by
  refine sx_start (cc := cX9_flowFor) (maxL := 4) (ret := some .long) (lv := [(0, .ref h), (1, .int p), (2, .int q), (3, .int s)]) (own := RX9) (by decide +kernel) rfl rfl rfl (Nat.le_of_ble_eq_true rfl) (fun C F T => ?_)
  refine sw_iload_n (pc := 0) F dX9_flowFor_0 rfl 1 rfl ?_
  refine sw_i2l (pc := 1) F dX9_flowFor_1 rfl ?_
  refine sw_lconst (pc := 2) (v := 0) F dX9_flowFor_2 rfl ?_
  refine sw_ldc2 (pc := 3) (v := 30000) F (List.mem_of_getElem? (i := 1) rfl) dX9_flowFor_3 ?_
  refine sw_callv (pc := 6) (wr := []) (k' := 0) (n' := 0) F (sw_runS (R := ({ frames := 7, cells := 1, slots := 6, locals := 106 } : Room)) (na := 3) F T.2.1 T.2.2.1 (k_X9_needBetween l G p.toInt64 0 30000 (by assumption) (by assumption)) [] rfl (by decide) gX9_flowFor_X9_needBetween rfl rfl rfl (by decide +kernel) ⟨Nat.le_of_ble_eq_true rfl, Nat.le_of_ble_eq_true rfl⟩ rfl rfl (Nat.le_of_ble_eq_true rfl) dX9_flowFor_6 (Nat.le_of_ble_eq_true rfl) (Nat.le_of_ble_eq_true rfl)) [] [] rfl rfl (by decide) (by decide) rfl rfl (fun u_2 h_3 => ?_)
  refine sw_eq (ws' := []) (lv' := [(0, .ref h), (1, .int p), (2, .int q), (3, .int s)]) (st' := []) rfl rfl rfl ?_
  refine sw_iload_n (pc := 9) F dX9_flowFor_9 rfl 2 rfl ?_
  refine sw_i2l (pc := 10) F dX9_flowFor_10 rfl ?_
  refine sw_lconst (pc := 11) (v := 0) F dX9_flowFor_11 rfl ?_
  refine sw_ldc2 (pc := 12) (v := 30000) F (List.mem_of_getElem? (i := 1) rfl) dX9_flowFor_12 ?_
  refine sw_callv (pc := 15) (wr := []) (k' := 0) (n' := 0) F (sw_runS (R := ({ frames := 7, cells := 1, slots := 6, locals := 106 } : Room)) (na := 3) F T.2.1 T.2.2.1 (k_X9_needBetween l G q.toInt64 0 30000 (by assumption) (by assumption)) [] rfl (by decide) gX9_flowFor_X9_needBetween rfl rfl rfl (by decide +kernel) ⟨Nat.le_of_ble_eq_true rfl, Nat.le_of_ble_eq_true rfl⟩ rfl rfl (Nat.le_of_ble_eq_true rfl) dX9_flowFor_15 (Nat.le_of_ble_eq_true rfl) (Nat.le_of_ble_eq_true rfl)) [] [] rfl rfl (by decide) (by decide) rfl rfl (fun u_5 h_6 => ?_)
  refine sw_eq (ws' := []) (lv' := [(0, .ref h), (1, .int p), (2, .int q), (3, .int s)]) (st' := []) rfl rfl rfl ?_
  refine sw_iload_n (pc := 18) F dX9_flowFor_18 rfl 3 rfl ?_
  refine sw_i2l (pc := 19) F dX9_flowFor_19 rfl ?_
  refine sw_ldc2 (pc := 20) (v := (-500)) F (List.mem_of_getElem? (i := 2) rfl) dX9_flowFor_20 ?_
  refine sw_ldc2 (pc := 23) (v := 3000) F (List.mem_of_getElem? (i := 3) rfl) dX9_flowFor_23 ?_
  exact sx_callv (pc := 26) F T (sx_runS (R := ({ frames := 7, cells := 1, slots := 6, locals := 106 } : Room)) (na := 3) F T.2.2.2.2.1 T.2.1 T.2.2.1 (kt_X9_needBetween l G s.toInt64 (-500) 3000 hst hT) [] rfl (by decide) gX9_flowFor_X9_needBetween rfl rfl rfl (by decide +kernel) ⟨Nat.le_of_ble_eq_true rfl, Nat.le_of_ble_eq_true rfl⟩ rfl rfl (Nat.le_of_ble_eq_true rfl) dX9_flowFor_26 (Nat.le_of_ble_eq_true rfl) (Nat.le_of_ble_eq_true rfl)) [] rfl rfl rfl
set_option maxHeartbeats 4000000 in
set_option maxRecDepth 100000 in
theorem kt_X9_differentialFor_f1 (l : Launch) (G : sw_E) (h : Nat) (v : Int64) (hst : l.stackTraces = false) (hT : v < 0 ∨ ¬ v ≤ 1000000000) : sx_M l G yX9_differentialFor wsX9_differentialFor ({ frames := 7, cells := 1, slots := 6, locals := 106 } : Room) [.ref h, .long v] [] (sx_QI G) "java/lang/IllegalArgumentException" := by
  refine sx_start (cc := cX9_differentialFor) (maxL := 7) (ret := some .int) (lv := [(0, .ref h), (1, .long v)]) (own := RX9) (by decide +kernel) rfl rfl rfl (Nat.le_of_ble_eq_true rfl) (fun C F T => ?_)
  refine sw_lload_n (pc := 0) F dX9_differentialFor_0 rfl 1 rfl ?_
  refine sw_lconst (pc := 1) (v := 0) F dX9_differentialFor_1 rfl ?_
  refine sw_ldc2 (pc := 2) (v := 1000000000) F (List.mem_of_getElem? (i := 1) rfl) dX9_differentialFor_2 ?_
  exact sx_callv (pc := 5) F T (sx_runS (R := ({ frames := 7, cells := 1, slots := 6, locals := 106 } : Room)) (na := 3) F T.2.2.2.2.1 T.2.1 T.2.2.1 (kt_X9_needBetween l G v 0 1000000000 hst hT) [] rfl (by decide) gX9_differentialFor_X9_needBetween rfl rfl rfl (by decide +kernel) ⟨Nat.le_of_ble_eq_true rfl, Nat.le_of_ble_eq_true rfl⟩ rfl rfl (Nat.le_of_ble_eq_true rfl) dX9_differentialFor_5 (Nat.le_of_ble_eq_true rfl) (Nat.le_of_ble_eq_true rfl)) [] rfl rfl rfl
set_option maxHeartbeats 4000000 in
set_option maxRecDepth 100000 in
theorem kt_X9_undo_f1 (l : Launch) (G : sw_E) (h : Nat) (n : Nat) (b : Nat) (c : Nat) (f : Nat) (sv : Int32) (hst : l.stackTraces = false) (hs : sv ≤ 0) : sx_M l G yX9_undo wsX9_undo ({ frames := 7, cells := 1, slots := 6, locals := 101 } : Room) [.ref h] [(h, .inr (9, [.ref n, .ref b, .ref c, .ref f, .int sv]))] (sx_QI G) "java/lang/IllegalStateException" := by
  refine sx_start (cc := cX9_undo) (maxL := 2) (ret := some .int) (lv := [(0, .ref h)]) (own := RX9) (by decide +kernel) rfl rfl rfl (Nat.le_of_ble_eq_true rfl) (fun C F T => ?_)
  have in9 : ∀ w ∈ u_ws RX9 TX9 5, w ∈ wsX9_undo := fun w h => List.mem_cons_of_mem _ (List.mem_append_left _ (List.mem_append_right _ (h)))
  refine sw_aload_n (pc := 0) F dX9_undo_0 rfl 0 rfl ?_
  refine sw_get (pc := 1) (Cn := RX9) (T := TX9) (N := 5) (ci := 9) (v := .int sv) F in9 0 rfl rfl 4 (by decide) rfl (List.mem_of_getElem? (i := 1) rfl) rfl dX9_undo_1 ?_
  refine sw_if_le (pc := 4) (tgt := 11) F dX9_undo_4 (by decide) (fun _ => ?_) (fun c => absurd hs c)
  refine sw_iconst (pc := 11) (v := 0) F dX9_undo_11 rfl ?_
  exact sx_callv (pc := 12) F T (sx_runS (R := ({ frames := 7, cells := 1, slots := 6, locals := 101 } : Room)) (na := 1) F T.2.2.2.2.1 T.2.1 T.2.2.1 (kt_X9_needState l G 0 hst rfl) [] rfl (by decide) gX9_undo_X9_needState rfl rfl rfl (by decide +kernel) ⟨Nat.le_of_ble_eq_true rfl, Nat.le_of_ble_eq_true rfl⟩ rfl rfl (Nat.le_of_ble_eq_true rfl) dX9_undo_12 (Nat.le_of_ble_eq_true rfl) (Nat.le_of_ble_eq_true rfl)) [] rfl rfl rfl
set_option maxHeartbeats 4000000 in
set_option maxRecDepth 100000 in
theorem kt_X9_valueOf_f1_168 (l : Launch) (G : sw_E) (h0 : Nat) (c0 : Nat) (ho : Int32) (hn : Int32) (i : Int32) (j : Int32) (hst : l.stackTraces = false) (hT : i < 0 ∨ ¬ i < hn) : sx_M l G yX9_valueOf wsX9_valueOf ({ frames := 7, cells := 1, slots := 6, locals := 102 } : Room) [.ref h0, .int i, .int j] [(h0, .inr (4, [.int 24, .int 7, .ref c0, .int ho, .int hn]))] (sx_QL G) "java/lang/IndexOutOfBoundsException" := by
  refine sx_start (cc := cX9_valueOf) (maxL := 3) (ret := some .long) (lv := [(0, .ref h0), (1, .int i), (2, .int j)]) (own := RX9) (by decide +kernel) rfl rfl rfl (Nat.le_of_ble_eq_true rfl) (fun C F T => ?_)
  have in4 : ∀ w ∈ u_ws RX4 TX4 5, w ∈ wsX9_valueOf := fun w h => List.mem_cons_of_mem _ (List.mem_append_left _ (List.mem_append_left _ (List.mem_append_right _ (h))))
  refine sw_iload_n (pc := 0) F dX9_valueOf_0 rfl 1 rfl ?_
  refine sw_aload_n (pc := 1) F dX9_valueOf_1 rfl 0 rfl ?_
  refine sw_get (pc := 2) (Cn := RX4) (T := TX4) (N := 5) (ci := 4) (v := .int hn) F in4 0 rfl rfl 4 (by decide) rfl (List.mem_of_getElem? (i := 1) rfl) rfl dX9_valueOf_2 ?_
  exact sx_callv (pc := 5) F T (sx_runS (R := ({ frames := 7, cells := 1, slots := 6, locals := 102 } : Room)) (na := 2) F T.2.2.2.2.1 T.2.1 T.2.2.1 (kt_X9_needIndex l G i hn hst hT) [] rfl (by decide) gX9_valueOf_X9_needIndex rfl rfl rfl (by decide +kernel) ⟨Nat.le_of_ble_eq_true rfl, Nat.le_of_ble_eq_true rfl⟩ rfl rfl (Nat.le_of_ble_eq_true rfl) dX9_valueOf_5 (Nat.le_of_ble_eq_true rfl) (Nat.le_of_ble_eq_true rfl)) [] rfl rfl rfl
set_option maxHeartbeats 4000000 in
set_option maxRecDepth 100000 in
theorem kt_X9_valueOf_f2_168 (l : Launch) (G : sw_E) (h0 : Nat) (c0 : Nat) (ho : Int32) (hn : Int32) (i : Int32) (j : Int32) (hst : l.stackTraces = false) (hi0 : ¬ i < 0) (hi1 : i < hn) (hT : j.toInt64 < 0 ∨ ¬ j.toInt64 ≤ 6) : sx_M l G yX9_valueOf wsX9_valueOf ({ frames := 7, cells := 1, slots := 6, locals := 106 } : Room) [.ref h0, .int i, .int j] [(h0, .inr (4, [.int 24, .int 7, .ref c0, .int ho, .int hn]))] (sx_QL G) "java/lang/IllegalArgumentException" := by
  refine sx_start (cc := cX9_valueOf) (maxL := 3) (ret := some .long) (lv := [(0, .ref h0), (1, .int i), (2, .int j)]) (own := RX9) (by decide +kernel) rfl rfl rfl (Nat.le_of_ble_eq_true rfl) (fun C F T => ?_)
  have in4 : ∀ w ∈ u_ws RX4 TX4 5, w ∈ wsX9_valueOf := fun w h => List.mem_cons_of_mem _ (List.mem_append_left _ (List.mem_append_left _ (List.mem_append_right _ (h))))
  refine sw_iload_n (pc := 0) F dX9_valueOf_0 rfl 1 rfl ?_
  refine sw_aload_n (pc := 1) F dX9_valueOf_1 rfl 0 rfl ?_
  refine sw_get (pc := 2) (Cn := RX4) (T := TX4) (N := 5) (ci := 4) (v := .int hn) F in4 0 rfl rfl 4 (by decide) rfl (List.mem_of_getElem? (i := 1) rfl) rfl dX9_valueOf_2 ?_
  refine sw_callv (pc := 5) (wr := [(h0, .inr (4, [.int 24, .int 7, .ref c0, .int ho, .int hn]))]) (k' := 0) (n' := 0) F (sw_runS (R := ({ frames := 7, cells := 1, slots := 6, locals := 106 } : Room)) (na := 2) F T.2.1 T.2.2.1 (k_X9_needIndex l G i hn (by assumption) (by assumption)) [] rfl (by decide) gX9_valueOf_X9_needIndex rfl rfl rfl (by decide +kernel) ⟨Nat.le_of_ble_eq_true rfl, Nat.le_of_ble_eq_true rfl⟩ rfl rfl (Nat.le_of_ble_eq_true rfl) dX9_valueOf_5 (Nat.le_of_ble_eq_true rfl) (Nat.le_of_ble_eq_true rfl)) [] [0] rfl rfl (by decide) (by decide) rfl rfl (fun u_2 h_3 => ?_)
  refine sw_eq (ws' := [(h0, .inr (4, [.int 24, .int 7, .ref c0, .int ho, .int hn]))]) (lv' := [(0, .ref h0), (1, .int i), (2, .int j)]) (st' := []) rfl rfl rfl ?_
  refine sw_iload_n (pc := 8) F dX9_valueOf_8 rfl 2 rfl ?_
  refine sw_i2l (pc := 9) F dX9_valueOf_9 rfl ?_
  refine sw_lconst (pc := 10) (v := 0) F dX9_valueOf_10 rfl ?_
  refine sw_aload_n (pc := 11) F dX9_valueOf_11 rfl 0 rfl ?_
  refine sw_get (pc := 12) (Cn := RX4) (T := TX4) (N := 5) (ci := 4) (v := .int 7) F in4 0 rfl rfl 1 (by decide) rfl (List.mem_of_getElem? (i := 2) rfl) rfl dX9_valueOf_12 ?_
  refine sw_iconst (pc := 15) (v := 1) F dX9_valueOf_15 rfl ?_
  refine sw_isub (pc := 16) F dX9_valueOf_16 ?_
  refine sw_eqt (v := .int 6) (by rfl) ?_
  refine sw_i2l (pc := 17) (v := 6) F dX9_valueOf_17 rfl ?_
  exact sx_callv (pc := 18) F T (sx_runS (R := ({ frames := 7, cells := 1, slots := 6, locals := 106 } : Room)) (na := 3) F T.2.2.2.2.1 T.2.1 T.2.2.1 (kt_X9_needBetween l G j.toInt64 0 6 hst hT) [] rfl (by decide) gX9_valueOf_X9_needBetween rfl rfl rfl (by decide +kernel) ⟨Nat.le_of_ble_eq_true rfl, Nat.le_of_ble_eq_true rfl⟩ rfl rfl (Nat.le_of_ble_eq_true rfl) dX9_valueOf_18 (Nat.le_of_ble_eq_true rfl) (Nat.le_of_ble_eq_true rfl)) [] rfl rfl rfl
set_option maxHeartbeats 4000000 in
set_option maxRecDepth 100000 in
theorem kt_X9_hour_f1 (l : Launch) (G : sw_E) (h : Nat) (n : Nat → Nat) (bq : Nat) (cq : Nat) (f : Nat → Nat) (sv : Int32) (x : XS) (i : Int32) (j : Int32) (hst : l.stackTraces = false) (hT : i < 0 ∨ ¬ i < x.1 40) : sx_M l G yX9_hour wsX9_hour ({ frames := 8, cells := 1, slots := 6, locals := 124 } : Room) [.ref h, .int i, .int j] [(h, .inr (9, [.ref (n 0), .ref bq, .ref cq, .ref (f 0), .int sv])), (n 0, .inr (6, [.int (x.1 0), .int (x.1 1), .ref (n 1), .ref (n 2), .ref (n 3), .ref (n 4), .int (x.1 2), .int (x.1 3), .int (x.1 4), .ref (n 5), .ref (n 8), .long (x.2.1 0), .long (x.2.1 1), .long (x.2.1 2), .ref (n 9), .ref (n 10), .ref (n 13), .ref (n 14), .ref (n 15), .ref (n 16)])), (n 14, .inr (4, [.int 24, .int 7, .ref (n 17), .int (x.1 39), .int (x.1 40)]))] (sx_QL G) "java/lang/IndexOutOfBoundsException" := by
  refine sx_start (cc := cX9_hour) (maxL := 3) (ret := some .long) (lv := [(0, .ref h), (1, .int i), (2, .int j)]) (own := RX9) (by decide +kernel) rfl rfl rfl (Nat.le_of_ble_eq_true rfl) (fun C F T => ?_)
  have in6 : ∀ w ∈ u_ws RX6 TX6 20, w ∈ wsX9_hour := fun w h => List.mem_cons_of_mem _ (List.mem_append_left _ (List.mem_append_left _ (List.mem_append_left _ (List.mem_append_right _ (h)))))
  have in9 : ∀ w ∈ u_ws RX9 TX9 5, w ∈ wsX9_hour := fun w h => List.mem_cons_of_mem _ (List.mem_append_left _ (List.mem_append_left _ (List.mem_append_left _ (List.mem_append_left _ (List.mem_append_right _ (h))))))
  refine sw_aload_n (pc := 0) F dX9_hour_0 rfl 0 rfl ?_
  refine sw_get (pc := 1) (Cn := RX9) (T := TX9) (N := 5) (ci := 9) (v := .ref (n 0)) F in9 0 rfl rfl 0 (by decide) rfl (List.mem_of_getElem? (i := 1) rfl) rfl dX9_hour_1 ?_
  refine sw_get (pc := 4) (Cn := RX6) (T := TX6) (N := 20) (ci := 6) (v := .ref (n 14)) F in6 1 rfl rfl 17 (by decide) rfl (List.mem_of_getElem? (i := 2) rfl) rfl dX9_hour_4 ?_
  refine sw_iload_n (pc := 7) F dX9_hour_7 rfl 1 rfl ?_
  refine sw_iload_n (pc := 8) F dX9_hour_8 rfl 2 rfl ?_
  exact sx_calll (pc := 9) F T (sx_runS (R := ({ frames := 8, cells := 1, slots := 6, locals := 124 } : Room)) (na := 3) F T.2.2.2.2.1 T.2.1 T.2.2.1 (kt_X9_valueOf_f1_168 l G (n 14) (n 17) (x.1 39) (x.1 40) i j hst hT) [2] rfl (by decide) gX9_hour_X9_valueOf rfl rfl rfl (by decide +kernel) ⟨Nat.le_of_ble_eq_true rfl, Nat.le_of_ble_eq_true rfl⟩ rfl rfl (Nat.le_of_ble_eq_true rfl) dX9_hour_9 (Nat.le_of_ble_eq_true rfl) (Nat.le_of_ble_eq_true rfl)) [2] rfl rfl rfl
set_option maxHeartbeats 4000000 in
set_option maxRecDepth 100000 in
theorem kt_X9_hour_f2 (l : Launch) (G : sw_E) (h : Nat) (n : Nat → Nat) (bq : Nat) (cq : Nat) (f : Nat → Nat) (sv : Int32) (x : XS) (i : Int32) (j : Int32) (hst : l.stackTraces = false) (hi0 : ¬ i < 0) (hi1 : i < x.1 40) (hT : j.toInt64 < 0 ∨ ¬ j.toInt64 ≤ 6) : sx_M l G yX9_hour wsX9_hour ({ frames := 8, cells := 1, slots := 6, locals := 128 } : Room) [.ref h, .int i, .int j] [(h, .inr (9, [.ref (n 0), .ref bq, .ref cq, .ref (f 0), .int sv])), (n 0, .inr (6, [.int (x.1 0), .int (x.1 1), .ref (n 1), .ref (n 2), .ref (n 3), .ref (n 4), .int (x.1 2), .int (x.1 3), .int (x.1 4), .ref (n 5), .ref (n 8), .long (x.2.1 0), .long (x.2.1 1), .long (x.2.1 2), .ref (n 9), .ref (n 10), .ref (n 13), .ref (n 14), .ref (n 15), .ref (n 16)])), (n 14, .inr (4, [.int 24, .int 7, .ref (n 17), .int (x.1 39), .int (x.1 40)]))] (sx_QL G) "java/lang/IllegalArgumentException" := by
  refine sx_start (cc := cX9_hour) (maxL := 3) (ret := some .long) (lv := [(0, .ref h), (1, .int i), (2, .int j)]) (own := RX9) (by decide +kernel) rfl rfl rfl (Nat.le_of_ble_eq_true rfl) (fun C F T => ?_)
  have in6 : ∀ w ∈ u_ws RX6 TX6 20, w ∈ wsX9_hour := fun w h => List.mem_cons_of_mem _ (List.mem_append_left _ (List.mem_append_left _ (List.mem_append_left _ (List.mem_append_right _ (h)))))
  have in9 : ∀ w ∈ u_ws RX9 TX9 5, w ∈ wsX9_hour := fun w h => List.mem_cons_of_mem _ (List.mem_append_left _ (List.mem_append_left _ (List.mem_append_left _ (List.mem_append_left _ (List.mem_append_right _ (h))))))
  refine sw_aload_n (pc := 0) F dX9_hour_0 rfl 0 rfl ?_
  refine sw_get (pc := 1) (Cn := RX9) (T := TX9) (N := 5) (ci := 9) (v := .ref (n 0)) F in9 0 rfl rfl 0 (by decide) rfl (List.mem_of_getElem? (i := 1) rfl) rfl dX9_hour_1 ?_
  refine sw_get (pc := 4) (Cn := RX6) (T := TX6) (N := 20) (ci := 6) (v := .ref (n 14)) F in6 1 rfl rfl 17 (by decide) rfl (List.mem_of_getElem? (i := 2) rfl) rfl dX9_hour_4 ?_
  refine sw_iload_n (pc := 7) F dX9_hour_7 rfl 1 rfl ?_
  refine sw_iload_n (pc := 8) F dX9_hour_8 rfl 2 rfl ?_
  exact sx_calll (pc := 9) F T (sx_runS (R := ({ frames := 8, cells := 1, slots := 6, locals := 128 } : Room)) (na := 3) F T.2.2.2.2.1 T.2.1 T.2.2.1 (kt_X9_valueOf_f2_168 l G (n 14) (n 17) (x.1 39) (x.1 40) i j hst hi0 hi1 hT) [2] rfl (by decide) gX9_hour_X9_valueOf rfl rfl rfl (by decide +kernel) ⟨Nat.le_of_ble_eq_true rfl, Nat.le_of_ble_eq_true rfl⟩ rfl rfl (Nat.le_of_ble_eq_true rfl) dX9_hour_9 (Nat.le_of_ble_eq_true rfl) (Nat.le_of_ble_eq_true rfl)) [2] rfl rfl rfl
set_option maxHeartbeats 4000000 in
set_option maxRecDepth 100000 in
theorem kt_X9_valueOf_f1_20 (l : Launch) (G : sw_E) (h0 : Nat) (c0 : Nat) (ho : Int32) (hn : Int32) (i : Int32) (j : Int32) (hst : l.stackTraces = false) (hT : i < 0 ∨ ¬ i < hn) : sx_M l G yX9_valueOf wsX9_valueOf ({ frames := 7, cells := 1, slots := 6, locals := 102 } : Room) [.ref h0, .int i, .int j] [(h0, .inr (4, [.int 5, .int 4, .ref c0, .int ho, .int hn]))] (sx_QL G) "java/lang/IndexOutOfBoundsException" := by
  refine sx_start (cc := cX9_valueOf) (maxL := 3) (ret := some .long) (lv := [(0, .ref h0), (1, .int i), (2, .int j)]) (own := RX9) (by decide +kernel) rfl rfl rfl (Nat.le_of_ble_eq_true rfl) (fun C F T => ?_)
  have in4 : ∀ w ∈ u_ws RX4 TX4 5, w ∈ wsX9_valueOf := fun w h => List.mem_cons_of_mem _ (List.mem_append_left _ (List.mem_append_left _ (List.mem_append_right _ (h))))
  refine sw_iload_n (pc := 0) F dX9_valueOf_0 rfl 1 rfl ?_
  refine sw_aload_n (pc := 1) F dX9_valueOf_1 rfl 0 rfl ?_
  refine sw_get (pc := 2) (Cn := RX4) (T := TX4) (N := 5) (ci := 4) (v := .int hn) F in4 0 rfl rfl 4 (by decide) rfl (List.mem_of_getElem? (i := 1) rfl) rfl dX9_valueOf_2 ?_
  exact sx_callv (pc := 5) F T (sx_runS (R := ({ frames := 7, cells := 1, slots := 6, locals := 102 } : Room)) (na := 2) F T.2.2.2.2.1 T.2.1 T.2.2.1 (kt_X9_needIndex l G i hn hst hT) [] rfl (by decide) gX9_valueOf_X9_needIndex rfl rfl rfl (by decide +kernel) ⟨Nat.le_of_ble_eq_true rfl, Nat.le_of_ble_eq_true rfl⟩ rfl rfl (Nat.le_of_ble_eq_true rfl) dX9_valueOf_5 (Nat.le_of_ble_eq_true rfl) (Nat.le_of_ble_eq_true rfl)) [] rfl rfl rfl
set_option maxHeartbeats 4000000 in
set_option maxRecDepth 100000 in
theorem kt_X9_valueOf_f2_20 (l : Launch) (G : sw_E) (h0 : Nat) (c0 : Nat) (ho : Int32) (hn : Int32) (i : Int32) (j : Int32) (hst : l.stackTraces = false) (hi0 : ¬ i < 0) (hi1 : i < hn) (hT : j.toInt64 < 0 ∨ ¬ j.toInt64 ≤ 3) : sx_M l G yX9_valueOf wsX9_valueOf ({ frames := 7, cells := 1, slots := 6, locals := 106 } : Room) [.ref h0, .int i, .int j] [(h0, .inr (4, [.int 5, .int 4, .ref c0, .int ho, .int hn]))] (sx_QL G) "java/lang/IllegalArgumentException" := by
  refine sx_start (cc := cX9_valueOf) (maxL := 3) (ret := some .long) (lv := [(0, .ref h0), (1, .int i), (2, .int j)]) (own := RX9) (by decide +kernel) rfl rfl rfl (Nat.le_of_ble_eq_true rfl) (fun C F T => ?_)
  have in4 : ∀ w ∈ u_ws RX4 TX4 5, w ∈ wsX9_valueOf := fun w h => List.mem_cons_of_mem _ (List.mem_append_left _ (List.mem_append_left _ (List.mem_append_right _ (h))))
  refine sw_iload_n (pc := 0) F dX9_valueOf_0 rfl 1 rfl ?_
  refine sw_aload_n (pc := 1) F dX9_valueOf_1 rfl 0 rfl ?_
  refine sw_get (pc := 2) (Cn := RX4) (T := TX4) (N := 5) (ci := 4) (v := .int hn) F in4 0 rfl rfl 4 (by decide) rfl (List.mem_of_getElem? (i := 1) rfl) rfl dX9_valueOf_2 ?_
  refine sw_callv (pc := 5) (wr := [(h0, .inr (4, [.int 5, .int 4, .ref c0, .int ho, .int hn]))]) (k' := 0) (n' := 0) F (sw_runS (R := ({ frames := 7, cells := 1, slots := 6, locals := 106 } : Room)) (na := 2) F T.2.1 T.2.2.1 (k_X9_needIndex l G i hn (by assumption) (by assumption)) [] rfl (by decide) gX9_valueOf_X9_needIndex rfl rfl rfl (by decide +kernel) ⟨Nat.le_of_ble_eq_true rfl, Nat.le_of_ble_eq_true rfl⟩ rfl rfl (Nat.le_of_ble_eq_true rfl) dX9_valueOf_5 (Nat.le_of_ble_eq_true rfl) (Nat.le_of_ble_eq_true rfl)) [] [0] rfl rfl (by decide) (by decide) rfl rfl (fun u_2 h_3 => ?_)
  refine sw_eq (ws' := [(h0, .inr (4, [.int 5, .int 4, .ref c0, .int ho, .int hn]))]) (lv' := [(0, .ref h0), (1, .int i), (2, .int j)]) (st' := []) rfl rfl rfl ?_
  refine sw_iload_n (pc := 8) F dX9_valueOf_8 rfl 2 rfl ?_
  refine sw_i2l (pc := 9) F dX9_valueOf_9 rfl ?_
  refine sw_lconst (pc := 10) (v := 0) F dX9_valueOf_10 rfl ?_
  refine sw_aload_n (pc := 11) F dX9_valueOf_11 rfl 0 rfl ?_
  refine sw_get (pc := 12) (Cn := RX4) (T := TX4) (N := 5) (ci := 4) (v := .int 4) F in4 0 rfl rfl 1 (by decide) rfl (List.mem_of_getElem? (i := 2) rfl) rfl dX9_valueOf_12 ?_
  refine sw_iconst (pc := 15) (v := 1) F dX9_valueOf_15 rfl ?_
  refine sw_isub (pc := 16) F dX9_valueOf_16 ?_
  refine sw_eqt (v := .int 3) (by rfl) ?_
  refine sw_i2l (pc := 17) (v := 3) F dX9_valueOf_17 rfl ?_
  exact sx_callv (pc := 18) F T (sx_runS (R := ({ frames := 7, cells := 1, slots := 6, locals := 106 } : Room)) (na := 3) F T.2.2.2.2.1 T.2.1 T.2.2.1 (kt_X9_needBetween l G j.toInt64 0 3 hst hT) [] rfl (by decide) gX9_valueOf_X9_needBetween rfl rfl rfl (by decide +kernel) ⟨Nat.le_of_ble_eq_true rfl, Nat.le_of_ble_eq_true rfl⟩ rfl rfl (Nat.le_of_ble_eq_true rfl) dX9_valueOf_18 (Nat.le_of_ble_eq_true rfl) (Nat.le_of_ble_eq_true rfl)) [] rfl rfl rfl
set_option maxHeartbeats 4000000 in
set_option maxRecDepth 100000 in
theorem kt_X9_day_f1 (l : Launch) (G : sw_E) (h : Nat) (n : Nat → Nat) (bq : Nat) (cq : Nat) (f : Nat → Nat) (sv : Int32) (x : XS) (i : Int32) (j : Int32) (hst : l.stackTraces = false) (hT : i < 0 ∨ ¬ i < x.1 42) : sx_M l G yX9_day wsX9_day ({ frames := 8, cells := 1, slots := 6, locals := 124 } : Room) [.ref h, .int i, .int j] [(h, .inr (9, [.ref (n 0), .ref bq, .ref cq, .ref (f 0), .int sv])), (n 0, .inr (6, [.int (x.1 0), .int (x.1 1), .ref (n 1), .ref (n 2), .ref (n 3), .ref (n 4), .int (x.1 2), .int (x.1 3), .int (x.1 4), .ref (n 5), .ref (n 8), .long (x.2.1 0), .long (x.2.1 1), .long (x.2.1 2), .ref (n 9), .ref (n 10), .ref (n 13), .ref (n 14), .ref (n 15), .ref (n 16)])), (n 15, .inr (4, [.int 5, .int 4, .ref (n 18), .int (x.1 41), .int (x.1 42)]))] (sx_QL G) "java/lang/IndexOutOfBoundsException" := by
  refine sx_start (cc := cX9_day) (maxL := 3) (ret := some .long) (lv := [(0, .ref h), (1, .int i), (2, .int j)]) (own := RX9) (by decide +kernel) rfl rfl rfl (Nat.le_of_ble_eq_true rfl) (fun C F T => ?_)
  have in6 : ∀ w ∈ u_ws RX6 TX6 20, w ∈ wsX9_day := fun w h => List.mem_cons_of_mem _ (List.mem_append_left _ (List.mem_append_left _ (List.mem_append_left _ (List.mem_append_right _ (h)))))
  have in9 : ∀ w ∈ u_ws RX9 TX9 5, w ∈ wsX9_day := fun w h => List.mem_cons_of_mem _ (List.mem_append_left _ (List.mem_append_left _ (List.mem_append_left _ (List.mem_append_left _ (List.mem_append_right _ (h))))))
  refine sw_aload_n (pc := 0) F dX9_day_0 rfl 0 rfl ?_
  refine sw_get (pc := 1) (Cn := RX9) (T := TX9) (N := 5) (ci := 9) (v := .ref (n 0)) F in9 0 rfl rfl 0 (by decide) rfl (List.mem_of_getElem? (i := 1) rfl) rfl dX9_day_1 ?_
  refine sw_get (pc := 4) (Cn := RX6) (T := TX6) (N := 20) (ci := 6) (v := .ref (n 15)) F in6 1 rfl rfl 18 (by decide) rfl (List.mem_of_getElem? (i := 2) rfl) rfl dX9_day_4 ?_
  refine sw_iload_n (pc := 7) F dX9_day_7 rfl 1 rfl ?_
  refine sw_iload_n (pc := 8) F dX9_day_8 rfl 2 rfl ?_
  exact sx_calll (pc := 9) F T (sx_runS (R := ({ frames := 8, cells := 1, slots := 6, locals := 124 } : Room)) (na := 3) F T.2.2.2.2.1 T.2.1 T.2.2.1 (kt_X9_valueOf_f1_20 l G (n 15) (n 18) (x.1 41) (x.1 42) i j hst hT) [2] rfl (by decide) gX9_day_X9_valueOf rfl rfl rfl (by decide +kernel) ⟨Nat.le_of_ble_eq_true rfl, Nat.le_of_ble_eq_true rfl⟩ rfl rfl (Nat.le_of_ble_eq_true rfl) dX9_day_9 (Nat.le_of_ble_eq_true rfl) (Nat.le_of_ble_eq_true rfl)) [2] rfl rfl rfl
set_option maxHeartbeats 4000000 in
set_option maxRecDepth 100000 in
theorem kt_X9_day_f2 (l : Launch) (G : sw_E) (h : Nat) (n : Nat → Nat) (bq : Nat) (cq : Nat) (f : Nat → Nat) (sv : Int32) (x : XS) (i : Int32) (j : Int32) (hst : l.stackTraces = false) (hi0 : ¬ i < 0) (hi1 : i < x.1 42) (hT : j.toInt64 < 0 ∨ ¬ j.toInt64 ≤ 3) : sx_M l G yX9_day wsX9_day ({ frames := 8, cells := 1, slots := 6, locals := 128 } : Room) [.ref h, .int i, .int j] [(h, .inr (9, [.ref (n 0), .ref bq, .ref cq, .ref (f 0), .int sv])), (n 0, .inr (6, [.int (x.1 0), .int (x.1 1), .ref (n 1), .ref (n 2), .ref (n 3), .ref (n 4), .int (x.1 2), .int (x.1 3), .int (x.1 4), .ref (n 5), .ref (n 8), .long (x.2.1 0), .long (x.2.1 1), .long (x.2.1 2), .ref (n 9), .ref (n 10), .ref (n 13), .ref (n 14), .ref (n 15), .ref (n 16)])), (n 15, .inr (4, [.int 5, .int 4, .ref (n 18), .int (x.1 41), .int (x.1 42)]))] (sx_QL G) "java/lang/IllegalArgumentException" := by
  refine sx_start (cc := cX9_day) (maxL := 3) (ret := some .long) (lv := [(0, .ref h), (1, .int i), (2, .int j)]) (own := RX9) (by decide +kernel) rfl rfl rfl (Nat.le_of_ble_eq_true rfl) (fun C F T => ?_)
  have in6 : ∀ w ∈ u_ws RX6 TX6 20, w ∈ wsX9_day := fun w h => List.mem_cons_of_mem _ (List.mem_append_left _ (List.mem_append_left _ (List.mem_append_left _ (List.mem_append_right _ (h)))))
  have in9 : ∀ w ∈ u_ws RX9 TX9 5, w ∈ wsX9_day := fun w h => List.mem_cons_of_mem _ (List.mem_append_left _ (List.mem_append_left _ (List.mem_append_left _ (List.mem_append_left _ (List.mem_append_right _ (h))))))
  refine sw_aload_n (pc := 0) F dX9_day_0 rfl 0 rfl ?_
  refine sw_get (pc := 1) (Cn := RX9) (T := TX9) (N := 5) (ci := 9) (v := .ref (n 0)) F in9 0 rfl rfl 0 (by decide) rfl (List.mem_of_getElem? (i := 1) rfl) rfl dX9_day_1 ?_
  refine sw_get (pc := 4) (Cn := RX6) (T := TX6) (N := 20) (ci := 6) (v := .ref (n 15)) F in6 1 rfl rfl 18 (by decide) rfl (List.mem_of_getElem? (i := 2) rfl) rfl dX9_day_4 ?_
  refine sw_iload_n (pc := 7) F dX9_day_7 rfl 1 rfl ?_
  refine sw_iload_n (pc := 8) F dX9_day_8 rfl 2 rfl ?_
  exact sx_calll (pc := 9) F T (sx_runS (R := ({ frames := 8, cells := 1, slots := 6, locals := 128 } : Room)) (na := 3) F T.2.2.2.2.1 T.2.1 T.2.2.1 (kt_X9_valueOf_f2_20 l G (n 15) (n 18) (x.1 41) (x.1 42) i j hst hi0 hi1 hT) [2] rfl (by decide) gX9_day_X9_valueOf rfl rfl rfl (by decide +kernel) ⟨Nat.le_of_ble_eq_true rfl, Nat.le_of_ble_eq_true rfl⟩ rfl rfl (Nat.le_of_ble_eq_true rfl) dX9_day_9 (Nat.le_of_ble_eq_true rfl) (Nat.le_of_ble_eq_true rfl)) [2] rfl rfl rfl
set_option maxHeartbeats 4000000 in
set_option maxRecDepth 100000 in
theorem kt_X9_valueOf_f1_90 (l : Launch) (G : sw_E) (h0 : Nat) (c0 : Nat) (ho : Int32) (hn : Int32) (i : Int32) (j : Int32) (hst : l.stackTraces = false) (hT : i < 0 ∨ ¬ i < hn) : sx_M l G yX9_valueOf wsX9_valueOf ({ frames := 7, cells := 1, slots := 6, locals := 102 } : Room) [.ref h0, .int i, .int j] [(h0, .inr (4, [.int 30, .int 3, .ref c0, .int ho, .int hn]))] (sx_QL G) "java/lang/IndexOutOfBoundsException" := by
  refine sx_start (cc := cX9_valueOf) (maxL := 3) (ret := some .long) (lv := [(0, .ref h0), (1, .int i), (2, .int j)]) (own := RX9) (by decide +kernel) rfl rfl rfl (Nat.le_of_ble_eq_true rfl) (fun C F T => ?_)
  have in4 : ∀ w ∈ u_ws RX4 TX4 5, w ∈ wsX9_valueOf := fun w h => List.mem_cons_of_mem _ (List.mem_append_left _ (List.mem_append_left _ (List.mem_append_right _ (h))))
  refine sw_iload_n (pc := 0) F dX9_valueOf_0 rfl 1 rfl ?_
  refine sw_aload_n (pc := 1) F dX9_valueOf_1 rfl 0 rfl ?_
  refine sw_get (pc := 2) (Cn := RX4) (T := TX4) (N := 5) (ci := 4) (v := .int hn) F in4 0 rfl rfl 4 (by decide) rfl (List.mem_of_getElem? (i := 1) rfl) rfl dX9_valueOf_2 ?_
  exact sx_callv (pc := 5) F T (sx_runS (R := ({ frames := 7, cells := 1, slots := 6, locals := 102 } : Room)) (na := 2) F T.2.2.2.2.1 T.2.1 T.2.2.1 (kt_X9_needIndex l G i hn hst hT) [] rfl (by decide) gX9_valueOf_X9_needIndex rfl rfl rfl (by decide +kernel) ⟨Nat.le_of_ble_eq_true rfl, Nat.le_of_ble_eq_true rfl⟩ rfl rfl (Nat.le_of_ble_eq_true rfl) dX9_valueOf_5 (Nat.le_of_ble_eq_true rfl) (Nat.le_of_ble_eq_true rfl)) [] rfl rfl rfl
set_option maxHeartbeats 4000000 in
set_option maxRecDepth 100000 in
theorem kt_X9_valueOf_f2_90 (l : Launch) (G : sw_E) (h0 : Nat) (c0 : Nat) (ho : Int32) (hn : Int32) (i : Int32) (j : Int32) (hst : l.stackTraces = false) (hi0 : ¬ i < 0) (hi1 : i < hn) (hT : j.toInt64 < 0 ∨ ¬ j.toInt64 ≤ 2) : sx_M l G yX9_valueOf wsX9_valueOf ({ frames := 7, cells := 1, slots := 6, locals := 106 } : Room) [.ref h0, .int i, .int j] [(h0, .inr (4, [.int 30, .int 3, .ref c0, .int ho, .int hn]))] (sx_QL G) "java/lang/IllegalArgumentException" := by
  refine sx_start (cc := cX9_valueOf) (maxL := 3) (ret := some .long) (lv := [(0, .ref h0), (1, .int i), (2, .int j)]) (own := RX9) (by decide +kernel) rfl rfl rfl (Nat.le_of_ble_eq_true rfl) (fun C F T => ?_)
  have in4 : ∀ w ∈ u_ws RX4 TX4 5, w ∈ wsX9_valueOf := fun w h => List.mem_cons_of_mem _ (List.mem_append_left _ (List.mem_append_left _ (List.mem_append_right _ (h))))
  refine sw_iload_n (pc := 0) F dX9_valueOf_0 rfl 1 rfl ?_
  refine sw_aload_n (pc := 1) F dX9_valueOf_1 rfl 0 rfl ?_
  refine sw_get (pc := 2) (Cn := RX4) (T := TX4) (N := 5) (ci := 4) (v := .int hn) F in4 0 rfl rfl 4 (by decide) rfl (List.mem_of_getElem? (i := 1) rfl) rfl dX9_valueOf_2 ?_
  refine sw_callv (pc := 5) (wr := [(h0, .inr (4, [.int 30, .int 3, .ref c0, .int ho, .int hn]))]) (k' := 0) (n' := 0) F (sw_runS (R := ({ frames := 7, cells := 1, slots := 6, locals := 106 } : Room)) (na := 2) F T.2.1 T.2.2.1 (k_X9_needIndex l G i hn (by assumption) (by assumption)) [] rfl (by decide) gX9_valueOf_X9_needIndex rfl rfl rfl (by decide +kernel) ⟨Nat.le_of_ble_eq_true rfl, Nat.le_of_ble_eq_true rfl⟩ rfl rfl (Nat.le_of_ble_eq_true rfl) dX9_valueOf_5 (Nat.le_of_ble_eq_true rfl) (Nat.le_of_ble_eq_true rfl)) [] [0] rfl rfl (by decide) (by decide) rfl rfl (fun u_2 h_3 => ?_)
  refine sw_eq (ws' := [(h0, .inr (4, [.int 30, .int 3, .ref c0, .int ho, .int hn]))]) (lv' := [(0, .ref h0), (1, .int i), (2, .int j)]) (st' := []) rfl rfl rfl ?_
  refine sw_iload_n (pc := 8) F dX9_valueOf_8 rfl 2 rfl ?_
  refine sw_i2l (pc := 9) F dX9_valueOf_9 rfl ?_
  refine sw_lconst (pc := 10) (v := 0) F dX9_valueOf_10 rfl ?_
  refine sw_aload_n (pc := 11) F dX9_valueOf_11 rfl 0 rfl ?_
  refine sw_get (pc := 12) (Cn := RX4) (T := TX4) (N := 5) (ci := 4) (v := .int 3) F in4 0 rfl rfl 1 (by decide) rfl (List.mem_of_getElem? (i := 2) rfl) rfl dX9_valueOf_12 ?_
  refine sw_iconst (pc := 15) (v := 1) F dX9_valueOf_15 rfl ?_
  refine sw_isub (pc := 16) F dX9_valueOf_16 ?_
  refine sw_eqt (v := .int 2) (by rfl) ?_
  refine sw_i2l (pc := 17) (v := 2) F dX9_valueOf_17 rfl ?_
  exact sx_callv (pc := 18) F T (sx_runS (R := ({ frames := 7, cells := 1, slots := 6, locals := 106 } : Room)) (na := 3) F T.2.2.2.2.1 T.2.1 T.2.2.1 (kt_X9_needBetween l G j.toInt64 0 2 hst hT) [] rfl (by decide) gX9_valueOf_X9_needBetween rfl rfl rfl (by decide +kernel) ⟨Nat.le_of_ble_eq_true rfl, Nat.le_of_ble_eq_true rfl⟩ rfl rfl (Nat.le_of_ble_eq_true rfl) dX9_valueOf_18 (Nat.le_of_ble_eq_true rfl) (Nat.le_of_ble_eq_true rfl)) [] rfl rfl rfl
set_option maxHeartbeats 4000000 in
set_option maxRecDepth 100000 in
theorem kt_X9_event_f1 (l : Launch) (G : sw_E) (h : Nat) (n : Nat → Nat) (bq : Nat) (cq : Nat) (f : Nat → Nat) (sv : Int32) (x : XS) (i : Int32) (j : Int32) (hst : l.stackTraces = false) (hT : i < 0 ∨ ¬ i < x.1 44) : sx_M l G yX9_event wsX9_event ({ frames := 8, cells := 1, slots := 6, locals := 124 } : Room) [.ref h, .int i, .int j] [(h, .inr (9, [.ref (n 0), .ref bq, .ref cq, .ref (f 0), .int sv])), (n 0, .inr (6, [.int (x.1 0), .int (x.1 1), .ref (n 1), .ref (n 2), .ref (n 3), .ref (n 4), .int (x.1 2), .int (x.1 3), .int (x.1 4), .ref (n 5), .ref (n 8), .long (x.2.1 0), .long (x.2.1 1), .long (x.2.1 2), .ref (n 9), .ref (n 10), .ref (n 13), .ref (n 14), .ref (n 15), .ref (n 16)])), (n 16, .inr (4, [.int 30, .int 3, .ref (n 19), .int (x.1 43), .int (x.1 44)]))] (sx_QL G) "java/lang/IndexOutOfBoundsException" := by
  refine sx_start (cc := cX9_event) (maxL := 3) (ret := some .long) (lv := [(0, .ref h), (1, .int i), (2, .int j)]) (own := RX9) (by decide +kernel) rfl rfl rfl (Nat.le_of_ble_eq_true rfl) (fun C F T => ?_)
  have in6 : ∀ w ∈ u_ws RX6 TX6 20, w ∈ wsX9_event := fun w h => List.mem_cons_of_mem _ (List.mem_append_left _ (List.mem_append_left _ (List.mem_append_left _ (List.mem_append_right _ (h)))))
  have in9 : ∀ w ∈ u_ws RX9 TX9 5, w ∈ wsX9_event := fun w h => List.mem_cons_of_mem _ (List.mem_append_left _ (List.mem_append_left _ (List.mem_append_left _ (List.mem_append_left _ (List.mem_append_right _ (h))))))
  refine sw_aload_n (pc := 0) F dX9_event_0 rfl 0 rfl ?_
  refine sw_get (pc := 1) (Cn := RX9) (T := TX9) (N := 5) (ci := 9) (v := .ref (n 0)) F in9 0 rfl rfl 0 (by decide) rfl (List.mem_of_getElem? (i := 1) rfl) rfl dX9_event_1 ?_
  refine sw_get (pc := 4) (Cn := RX6) (T := TX6) (N := 20) (ci := 6) (v := .ref (n 16)) F in6 1 rfl rfl 19 (by decide) rfl (List.mem_of_getElem? (i := 2) rfl) rfl dX9_event_4 ?_
  refine sw_iload_n (pc := 7) F dX9_event_7 rfl 1 rfl ?_
  refine sw_iload_n (pc := 8) F dX9_event_8 rfl 2 rfl ?_
  exact sx_calll (pc := 9) F T (sx_runS (R := ({ frames := 8, cells := 1, slots := 6, locals := 124 } : Room)) (na := 3) F T.2.2.2.2.1 T.2.1 T.2.2.1 (kt_X9_valueOf_f1_90 l G (n 16) (n 19) (x.1 43) (x.1 44) i j hst hT) [2] rfl (by decide) gX9_event_X9_valueOf rfl rfl rfl (by decide +kernel) ⟨Nat.le_of_ble_eq_true rfl, Nat.le_of_ble_eq_true rfl⟩ rfl rfl (Nat.le_of_ble_eq_true rfl) dX9_event_9 (Nat.le_of_ble_eq_true rfl) (Nat.le_of_ble_eq_true rfl)) [2] rfl rfl rfl
set_option maxHeartbeats 4000000 in
set_option maxRecDepth 100000 in
theorem kt_X9_event_f2 (l : Launch) (G : sw_E) (h : Nat) (n : Nat → Nat) (bq : Nat) (cq : Nat) (f : Nat → Nat) (sv : Int32) (x : XS) (i : Int32) (j : Int32) (hst : l.stackTraces = false) (hi0 : ¬ i < 0) (hi1 : i < x.1 44) (hT : j.toInt64 < 0 ∨ ¬ j.toInt64 ≤ 2) : sx_M l G yX9_event wsX9_event ({ frames := 8, cells := 1, slots := 6, locals := 128 } : Room) [.ref h, .int i, .int j] [(h, .inr (9, [.ref (n 0), .ref bq, .ref cq, .ref (f 0), .int sv])), (n 0, .inr (6, [.int (x.1 0), .int (x.1 1), .ref (n 1), .ref (n 2), .ref (n 3), .ref (n 4), .int (x.1 2), .int (x.1 3), .int (x.1 4), .ref (n 5), .ref (n 8), .long (x.2.1 0), .long (x.2.1 1), .long (x.2.1 2), .ref (n 9), .ref (n 10), .ref (n 13), .ref (n 14), .ref (n 15), .ref (n 16)])), (n 16, .inr (4, [.int 30, .int 3, .ref (n 19), .int (x.1 43), .int (x.1 44)]))] (sx_QL G) "java/lang/IllegalArgumentException" := by
  refine sx_start (cc := cX9_event) (maxL := 3) (ret := some .long) (lv := [(0, .ref h), (1, .int i), (2, .int j)]) (own := RX9) (by decide +kernel) rfl rfl rfl (Nat.le_of_ble_eq_true rfl) (fun C F T => ?_)
  have in6 : ∀ w ∈ u_ws RX6 TX6 20, w ∈ wsX9_event := fun w h => List.mem_cons_of_mem _ (List.mem_append_left _ (List.mem_append_left _ (List.mem_append_left _ (List.mem_append_right _ (h)))))
  have in9 : ∀ w ∈ u_ws RX9 TX9 5, w ∈ wsX9_event := fun w h => List.mem_cons_of_mem _ (List.mem_append_left _ (List.mem_append_left _ (List.mem_append_left _ (List.mem_append_left _ (List.mem_append_right _ (h))))))
  refine sw_aload_n (pc := 0) F dX9_event_0 rfl 0 rfl ?_
  refine sw_get (pc := 1) (Cn := RX9) (T := TX9) (N := 5) (ci := 9) (v := .ref (n 0)) F in9 0 rfl rfl 0 (by decide) rfl (List.mem_of_getElem? (i := 1) rfl) rfl dX9_event_1 ?_
  refine sw_get (pc := 4) (Cn := RX6) (T := TX6) (N := 20) (ci := 6) (v := .ref (n 16)) F in6 1 rfl rfl 19 (by decide) rfl (List.mem_of_getElem? (i := 2) rfl) rfl dX9_event_4 ?_
  refine sw_iload_n (pc := 7) F dX9_event_7 rfl 1 rfl ?_
  refine sw_iload_n (pc := 8) F dX9_event_8 rfl 2 rfl ?_
  exact sx_calll (pc := 9) F T (sx_runS (R := ({ frames := 8, cells := 1, slots := 6, locals := 128 } : Room)) (na := 3) F T.2.2.2.2.1 T.2.1 T.2.2.1 (kt_X9_valueOf_f2_90 l G (n 16) (n 19) (x.1 43) (x.1 44) i j hst hi0 hi1 hT) [2] rfl (by decide) gX9_event_X9_valueOf rfl rfl rfl (by decide +kernel) ⟨Nat.le_of_ble_eq_true rfl, Nat.le_of_ble_eq_true rfl⟩ rfl rfl (Nat.le_of_ble_eq_true rfl) dX9_event_9 (Nat.le_of_ble_eq_true rfl) (Nat.le_of_ble_eq_true rfl)) [2] rfl rfl rfl
