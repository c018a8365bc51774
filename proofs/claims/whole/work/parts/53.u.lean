set_option maxHeartbeats 4000000 in
set_option maxRecDepth 100000 in
theorem k_L_setSpan (l : Launch) (G : sw_E) (h : Nat) (a1 : Int32) (a2 : Int32) (o : Nat) (ov : Nat → Int64) (fs : List Value) (wc : va_W) {S : Type} {post : Int32 → S → Prop} {wf : S → va_W} {r9 : Room} (M : sw_M l G yX9_setSpan wsX9_setSpan r9 [.ref h, .int a1, .int a2] ((h, .inr (9, fs)) :: wc) (sw_QI G post wf) 0 0) (hc9 : r9.cells = 0) (hs9 : r9.slots = 0) (hf9 : r9.frames ≤ 9) (hl9 : r9.locals ≤ 300) : sy_M l G yL_setSpan wsL_setSpan ({ frames := 10, cells := 0, slots := 0, locals := 340 } : Room) [.ref h, .int a1, .int a2, .ref o] ((o, .inl (G.2.1.2, 1, .inr (.inl ov))) :: (h, .inr (9, fs)) :: wc) (sw_QI G (S := Int32 × S) (fun (r : Int32) (u : Int32 × S) => r = 0 ∧ post u.1 u.2) (fun u => (o, .inl (G.2.1.2, 1, .inr (.inl (vp_updL ov 0 u.1.toInt64)))) :: wf u.2)) 0 0 := by
  refine sy_start (cc := cL_setSpan) (maxL := 5) (ret := some .int) (hh := [(0, 10, 13, 13), (0, 10, 17, 15)]) (lv := [(0, .ref h), (1, .int a1), (2, .int a2), (3, .ref o)]) (own := RL) (by decide +kernel) rfl rfl rfl (Nat.le_of_ble_eq_true rfl) (fun C F T => ?_)
  refine sw_aload_n (pc := 0) F dL_setSpan_0 rfl 3 rfl ?_
  refine sw_iconst (pc := 1) (v := 0) F dL_setSpan_1 rfl ?_
  refine sw_aload_n (pc := 2) F dL_setSpan_2 rfl 0 rfl ?_
  refine sw_iload_n (pc := 3) F dL_setSpan_3 rfl 1 rfl ?_
  refine sw_iload_n (pc := 4) F dL_setSpan_4 rfl 2 rfl ?_
  refine sw_calli (pc := 5) (wr := [(o, .inl (G.2.1.2, 1, .inr (.inl ov)))]) (k' := 0) (n' := 0) F (sw_runV (R := ({ frames := 10, cells := 0, slots := 0, locals := 340 } : Room)) (q0 := 0) (na := 2) (ci := 9) F T.2.1 T.2.2.1 M (sy_is ((h, .inr (9, fs)) :: wc)) (sy_is_map _ _) (sy_is_nd _) gL_setSpan_X9_setSpan rfl hc9 hs9 (by decide +kernel) ⟨Nat.succ_le_succ hf9, by show 8 + (5 + 11) + r9.locals ≤ 340; omega⟩ rfl rfl rfl rfl rfl (Nat.le_of_ble_eq_true rfl) dL_setSpan_5 (Nat.le_of_ble_eq_true rfl) (Nat.le_of_ble_eq_true rfl)) (sy_is ((h, .inr (9, fs)) :: wc)) [0] (sy_is_map _ _) rfl (by decide) (sy_is_dis _) rfl rfl (fun r u hp => ?_)
  refine sw_i2l (pc := 8) F dL_setSpan_8 rfl ?_
  refine sw_last (pc := 9) (ws' := (o, .inl (G.2.1.2, 1, .inr (.inl (vp_updL ov 0 r.toInt64)))) :: wf u) F 0 rfl (sw_in rfl) dL_setSpan_9 rfl ?_
  refine sw_goto (pc := 10) (tgt := 21) F dL_setSpan_10 (by decide) ?_
  refine sw_iconst (pc := 21) (v := 0) F dL_setSpan_21 rfl ?_
  exact sy_iret (pc := 22) F T rfl rfl (r, u) ⟨rfl, hp⟩ rfl dL_setSpan_22
set_option maxHeartbeats 4000000 in
set_option maxRecDepth 100000 in
theorem kt_L_setSpan_1 (l : Launch) (G : sw_E) (h : Nat) (a1 : Int32) (a2 : Int32) (o : Nat) (ov : Nat → Int64) (fs : List Value) (wc wq : va_W) (isC : List Nat) (hC : isC.map (fun i => (((o, .inl (G.2.1.2, 1, .inr (.inl ov))) :: (h, .inr (9, fs)) :: wc))[i]?) = wq.map some) (hnd : va_nd isC = true) {r9 : Room} (M : sx_M l G yX9_setSpan wsX9_setSpan r9 [.ref h, .int a1, .int a2] wq (sx_QI G) "java/lang/IndexOutOfBoundsException") (hc9 : r9.cells = 1) (hs9 : r9.slots = 6) (hf9 : r9.frames ≤ 9) (hl9 : r9.locals ≤ 300) : sy_M l G yL_setSpan wsL_setSpan ({ frames := 10, cells := 1, slots := 6, locals := 340 } : Room) [.ref h, .int a1, .int a2, .ref o] ((o, .inl (G.2.1.2, 1, .inr (.inl ov))) :: (h, .inr (9, fs)) :: wc) (sw_QI G (S := Unit) (fun (r : Int32) (u : Unit) => r = 1) (fun _ => ((o, .inl (G.2.1.2, 1, .inr (.inl ov))) :: (h, .inr (9, fs)) :: wc))) 1 6 := by
  refine sy_start (cc := cL_setSpan) (maxL := 5) (ret := some .int) (hh := [(0, 10, 13, 13), (0, 10, 17, 15)]) (lv := [(0, .ref h), (1, .int a1), (2, .int a2), (3, .ref o)]) (own := RL) (by decide +kernel) rfl rfl rfl (Nat.le_of_ble_eq_true rfl) (fun C F T => ?_)
  refine sw_aload_n (pc := 0) F dL_setSpan_0 rfl 3 rfl ?_
  refine sw_iconst (pc := 1) (v := 0) F dL_setSpan_1 rfl ?_
  refine sw_aload_n (pc := 2) F dL_setSpan_2 rfl 0 rfl ?_
  refine sw_iload_n (pc := 3) F dL_setSpan_3 rfl 1 rfl ?_
  refine sw_iload_n (pc := 4) F dL_setSpan_4 rfl 2 rfl ?_
  refine sy_calli (pc := 5) (x := { startPc := 0, endPc := 10, handlerPc := 13, catchType := 13 }) F T (sx_runV (R := ({ frames := 10, cells := 1, slots := 6, locals := 340 } : Room)) (q0 := 1) (na := 2) (ci := 9) F T.2.2.2.2.2.1.1 T.2.1 T.2.2.1 M isC hC hnd gL_setSpan_X9_setSpan rfl hc9 hs9 (by decide +kernel) ⟨Nat.succ_le_succ hf9, by show 8 + (5 + 11) + r9.locals ≤ 340; omega⟩ rfl rfl rfl rfl rfl (Nat.le_of_ble_eq_true rfl) dL_setSpan_5 (Nat.le_of_ble_eq_true rfl) (Nat.le_of_ble_eq_true rfl)) isC hC [] [{ startPc := 0, endPc := 10, handlerPc := 17, catchType := 15 }] rfl (fun z hz => nomatch hz) (by decide) (by decide) (List.mem_of_getElem? (i := 1) rfl) (List.mem_append_left _ (by decide +kernel)) (fun q => ?_)
  refine sw_astore (pc := 13) (lv' := [(4, .ref q), (0, .ref h), (1, .int a1), (2, .int a2), (3, .ref o)]) F T.1 dL_setSpan_13 (by decide) rfl ?_
  refine sw_iconst (pc := 15) (v := 1) F dL_setSpan_15 rfl ?_
  exact sy_iret (pc := 16) F T rfl rfl () rfl rfl dL_setSpan_16
set_option maxHeartbeats 4000000 in
set_option maxRecDepth 100000 in
theorem kt_L_setSpan_2 (l : Launch) (G : sw_E) (h : Nat) (a1 : Int32) (a2 : Int32) (o : Nat) (ov : Nat → Int64) (fs : List Value) (wc wq : va_W) (isC : List Nat) (hC : isC.map (fun i => (((o, .inl (G.2.1.2, 1, .inr (.inl ov))) :: (h, .inr (9, fs)) :: wc))[i]?) = wq.map some) (hnd : va_nd isC = true) {r9 : Room} (M : sx_M l G yX9_setSpan wsX9_setSpan r9 [.ref h, .int a1, .int a2] wq (sx_QI G) "java/lang/IllegalArgumentException") (hc9 : r9.cells = 1) (hs9 : r9.slots = 6) (hf9 : r9.frames ≤ 9) (hl9 : r9.locals ≤ 300) : sy_M l G yL_setSpan wsL_setSpan ({ frames := 10, cells := 1, slots := 6, locals := 340 } : Room) [.ref h, .int a1, .int a2, .ref o] ((o, .inl (G.2.1.2, 1, .inr (.inl ov))) :: (h, .inr (9, fs)) :: wc) (sw_QI G (S := Unit) (fun (r : Int32) (u : Unit) => r = 2) (fun _ => ((o, .inl (G.2.1.2, 1, .inr (.inl ov))) :: (h, .inr (9, fs)) :: wc))) 1 6 := by
  refine sy_start (cc := cL_setSpan) (maxL := 5) (ret := some .int) (hh := [(0, 10, 13, 13), (0, 10, 17, 15)]) (lv := [(0, .ref h), (1, .int a1), (2, .int a2), (3, .ref o)]) (own := RL) (by decide +kernel) rfl rfl rfl (Nat.le_of_ble_eq_true rfl) (fun C F T => ?_)
  refine sw_aload_n (pc := 0) F dL_setSpan_0 rfl 3 rfl ?_
  refine sw_iconst (pc := 1) (v := 0) F dL_setSpan_1 rfl ?_
  refine sw_aload_n (pc := 2) F dL_setSpan_2 rfl 0 rfl ?_
  refine sw_iload_n (pc := 3) F dL_setSpan_3 rfl 1 rfl ?_
  refine sw_iload_n (pc := 4) F dL_setSpan_4 rfl 2 rfl ?_
  refine sy_calli (pc := 5) (x := { startPc := 0, endPc := 10, handlerPc := 17, catchType := 15 }) F T (sx_runV (R := ({ frames := 10, cells := 1, slots := 6, locals := 340 } : Room)) (q0 := 1) (na := 2) (ci := 9) F T.2.2.2.2.2.1.1 T.2.1 T.2.2.1 M isC hC hnd gL_setSpan_X9_setSpan rfl hc9 hs9 (by decide +kernel) ⟨Nat.succ_le_succ hf9, by show 8 + (5 + 11) + r9.locals ≤ 340; omega⟩ rfl rfl rfl rfl rfl (Nat.le_of_ble_eq_true rfl) dL_setSpan_5 (Nat.le_of_ble_eq_true rfl) (Nat.le_of_ble_eq_true rfl)) isC hC [{ startPc := 0, endPc := 10, handlerPc := 13, catchType := 13 }] [] rfl (fun z hz => by rw [List.mem_singleton] at hz; subst hz; exact ⟨by decide, "java/lang/IndexOutOfBoundsException", (List.mem_of_getElem? (i := 1) rfl), T.2.2.2.2.2.1.2.1⟩) (by decide) (by decide) (List.mem_of_getElem? (i := 2) rfl) (List.mem_append_right _ (List.mem_append_left _ (by decide +kernel))) (fun q => ?_)
  refine sw_astore (pc := 17) (lv' := [(4, .ref q), (0, .ref h), (1, .int a1), (2, .int a2), (3, .ref o)]) F T.1 dL_setSpan_17 (by decide) rfl ?_
  refine sw_iconst (pc := 19) (v := 2) F dL_setSpan_19 rfl ?_
  exact sy_iret (pc := 20) F T rfl rfl () rfl rfl dL_setSpan_20
set_option maxHeartbeats 4000000 in
set_option maxRecDepth 100000 in
theorem k_L_setDamping (l : Launch) (G : sw_E) (h : Nat) (a1 : Int32) (a2 : Int32) (o : Nat) (ov : Nat → Int64) (fs : List Value) (wc : va_W) {S : Type} {post : Int32 → S → Prop} {wf : S → va_W} {r9 : Room} (M : sw_M l G yX9_setDamping wsX9_setDamping r9 [.ref h, .int a1, .int a2] ((h, .inr (9, fs)) :: wc) (sw_QI G post wf) 0 0) (hc9 : r9.cells = 0) (hs9 : r9.slots = 0) (hf9 : r9.frames ≤ 9) (hl9 : r9.locals ≤ 300) : sy_M l G yL_setDamping wsL_setDamping ({ frames := 10, cells := 0, slots := 0, locals := 340 } : Room) [.ref h, .int a1, .int a2, .ref o] ((o, .inl (G.2.1.2, 1, .inr (.inl ov))) :: (h, .inr (9, fs)) :: wc) (sw_QI G (S := Int32 × S) (fun (r : Int32) (u : Int32 × S) => r = 0 ∧ post u.1 u.2) (fun u => (o, .inl (G.2.1.2, 1, .inr (.inl (vp_updL ov 0 u.1.toInt64)))) :: wf u.2)) 0 0 := by
  refine sy_start (cc := cL_setDamping) (maxL := 5) (ret := some .int) (hh := [(0, 10, 13, 13), (0, 10, 17, 15)]) (lv := [(0, .ref h), (1, .int a1), (2, .int a2), (3, .ref o)]) (own := RL) (by decide +kernel) rfl rfl rfl (Nat.le_of_ble_eq_true rfl) (fun C F T => ?_)
  refine sw_aload_n (pc := 0) F dL_setDamping_0 rfl 3 rfl ?_
  refine sw_iconst (pc := 1) (v := 0) F dL_setDamping_1 rfl ?_
  refine sw_aload_n (pc := 2) F dL_setDamping_2 rfl 0 rfl ?_
  refine sw_iload_n (pc := 3) F dL_setDamping_3 rfl 1 rfl ?_
  refine sw_iload_n (pc := 4) F dL_setDamping_4 rfl 2 rfl ?_
  refine sw_calli (pc := 5) (wr := [(o, .inl (G.2.1.2, 1, .inr (.inl ov)))]) (k' := 0) (n' := 0) F (sw_runV (R := ({ frames := 10, cells := 0, slots := 0, locals := 340 } : Room)) (q0 := 0) (na := 2) (ci := 9) F T.2.1 T.2.2.1 M (sy_is ((h, .inr (9, fs)) :: wc)) (sy_is_map _ _) (sy_is_nd _) gL_setDamping_X9_setDamping rfl hc9 hs9 (by decide +kernel) ⟨Nat.succ_le_succ hf9, by show 8 + (5 + 11) + r9.locals ≤ 340; omega⟩ rfl rfl rfl rfl rfl (Nat.le_of_ble_eq_true rfl) dL_setDamping_5 (Nat.le_of_ble_eq_true rfl) (Nat.le_of_ble_eq_true rfl)) (sy_is ((h, .inr (9, fs)) :: wc)) [0] (sy_is_map _ _) rfl (by decide) (sy_is_dis _) rfl rfl (fun r u hp => ?_)
  refine sw_i2l (pc := 8) F dL_setDamping_8 rfl ?_
  refine sw_last (pc := 9) (ws' := (o, .inl (G.2.1.2, 1, .inr (.inl (vp_updL ov 0 r.toInt64)))) :: wf u) F 0 rfl (sw_in rfl) dL_setDamping_9 rfl ?_
  refine sw_goto (pc := 10) (tgt := 21) F dL_setDamping_10 (by decide) ?_
  refine sw_iconst (pc := 21) (v := 0) F dL_setDamping_21 rfl ?_
  exact sy_iret (pc := 22) F T rfl rfl (r, u) ⟨rfl, hp⟩ rfl dL_setDamping_22
set_option maxHeartbeats 4000000 in
set_option maxRecDepth 100000 in
theorem kt_L_setDamping_1 (l : Launch) (G : sw_E) (h : Nat) (a1 : Int32) (a2 : Int32) (o : Nat) (ov : Nat → Int64) (fs : List Value) (wc wq : va_W) (isC : List Nat) (hC : isC.map (fun i => (((o, .inl (G.2.1.2, 1, .inr (.inl ov))) :: (h, .inr (9, fs)) :: wc))[i]?) = wq.map some) (hnd : va_nd isC = true) {r9 : Room} (M : sx_M l G yX9_setDamping wsX9_setDamping r9 [.ref h, .int a1, .int a2] wq (sx_QI G) "java/lang/IndexOutOfBoundsException") (hc9 : r9.cells = 1) (hs9 : r9.slots = 6) (hf9 : r9.frames ≤ 9) (hl9 : r9.locals ≤ 300) : sy_M l G yL_setDamping wsL_setDamping ({ frames := 10, cells := 1, slots := 6, locals := 340 } : Room) [.ref h, .int a1, .int a2, .ref o] ((o, .inl (G.2.1.2, 1, .inr (.inl ov))) :: (h, .inr (9, fs)) :: wc) (sw_QI G (S := Unit) (fun (r : Int32) (u : Unit) => r = 1) (fun _ => ((o, .inl (G.2.1.2, 1, .inr (.inl ov))) :: (h, .inr (9, fs)) :: wc))) 1 6 := by
  refine sy_start (cc := cL_setDamping) (maxL := 5) (ret := some .int) (hh := [(0, 10, 13, 13), (0, 10, 17, 15)]) (lv := [(0, .ref h), (1, .int a1), (2, .int a2), (3, .ref o)]) (own := RL) (by decide +kernel) rfl rfl rfl (Nat.le_of_ble_eq_true rfl) (fun C F T => ?_)
  refine sw_aload_n (pc := 0) F dL_setDamping_0 rfl 3 rfl ?_
  refine sw_iconst (pc := 1) (v := 0) F dL_setDamping_1 rfl ?_
  refine sw_aload_n (pc := 2) F dL_setDamping_2 rfl 0 rfl ?_
  refine sw_iload_n (pc := 3) F dL_setDamping_3 rfl 1 rfl ?_
  refine sw_iload_n (pc := 4) F dL_setDamping_4 rfl 2 rfl ?_
  refine sy_calli (pc := 5) (x := { startPc := 0, endPc := 10, handlerPc := 13, catchType := 13 }) F T (sx_runV (R := ({ frames := 10, cells := 1, slots := 6, locals := 340 } : Room)) (q0 := 1) (na := 2) (ci := 9) F T.2.2.2.2.2.1.1 T.2.1 T.2.2.1 M isC hC hnd gL_setDamping_X9_setDamping rfl hc9 hs9 (by decide +kernel) ⟨Nat.succ_le_succ hf9, by show 8 + (5 + 11) + r9.locals ≤ 340; omega⟩ rfl rfl rfl rfl rfl (Nat.le_of_ble_eq_true rfl) dL_setDamping_5 (Nat.le_of_ble_eq_true rfl) (Nat.le_of_ble_eq_true rfl)) isC hC [] [{ startPc := 0, endPc := 10, handlerPc := 17, catchType := 15 }] rfl (fun z hz => nomatch hz) (by decide) (by decide) (List.mem_of_getElem? (i := 1) rfl) (List.mem_append_left _ (by decide +kernel)) (fun q => ?_)
  refine sw_astore (pc := 13) (lv' := [(4, .ref q), (0, .ref h), (1, .int a1), (2, .int a2), (3, .ref o)]) F T.1 dL_setDamping_13 (by decide) rfl ?_
  refine sw_iconst (pc := 15) (v := 1) F dL_setDamping_15 rfl ?_
  exact sy_iret (pc := 16) F T rfl rfl () rfl rfl dL_setDamping_16
set_option maxHeartbeats 4000000 in
set_option maxRecDepth 100000 in
theorem kt_L_setDamping_2 (l : Launch) (G : sw_E) (h : Nat) (a1 : Int32) (a2 : Int32) (o : Nat) (ov : Nat → Int64) (fs : List Value) (wc wq : va_W) (isC : List Nat) (hC : isC.map (fun i => (((o, .inl (G.2.1.2, 1, .inr (.inl ov))) :: (h, .inr (9, fs)) :: wc))[i]?) = wq.map some) (hnd : va_nd isC = true) {r9 : Room} (M : sx_M l G yX9_setDamping wsX9_setDamping r9 [.ref h, .int a1, .int a2] wq (sx_QI G) "java/lang/IllegalArgumentException") (hc9 : r9.cells = 1) (hs9 : r9.slots = 6) (hf9 : r9.frames ≤ 9) (hl9 : r9.locals ≤ 300) : sy_M l G yL_setDamping wsL_setDamping ({ frames := 10, cells := 1, slots := 6, locals := 340 } : Room) [.ref h, .int a1, .int a2, .ref o] ((o, .inl (G.2.1.2, 1, .inr (.inl ov))) :: (h, .inr (9, fs)) :: wc) (sw_QI G (S := Unit) (fun (r : Int32) (u : Unit) => r = 2) (fun _ => ((o, .inl (G.2.1.2, 1, .inr (.inl ov))) :: (h, .inr (9, fs)) :: wc))) 1 6 := by
  refine sy_start (cc := cL_setDamping) (maxL := 5) (ret := some .int) (hh := [(0, 10, 13, 13), (0, 10, 17, 15)]) (lv := [(0, .ref h), (1, .int a1), (2, .int a2), (3, .ref o)]) (own := RL) (by decide +kernel) rfl rfl rfl (Nat.le_of_ble_eq_true rfl) (fun C F T => ?_)
  refine sw_aload_n (pc := 0) F dL_setDamping_0 rfl 3 rfl ?_
  refine sw_iconst (pc := 1) (v := 0) F dL_setDamping_1 rfl ?_
  refine sw_aload_n (pc := 2) F dL_setDamping_2 rfl 0 rfl ?_
  refine sw_iload_n (pc := 3) F dL_setDamping_3 rfl 1 rfl ?_
  refine sw_iload_n (pc := 4) F dL_setDamping_4 rfl 2 rfl ?_
  refine sy_calli (pc := 5) (x := { startPc := 0, endPc := 10, handlerPc := 17, catchType := 15 }) F T (sx_runV (R := ({ frames := 10, cells := 1, slots := 6, locals := 340 } : Room)) (q0 := 1) (na := 2) (ci := 9) F T.2.2.2.2.2.1.1 T.2.1 T.2.2.1 M isC hC hnd gL_setDamping_X9_setDamping rfl hc9 hs9 (by decide +kernel) ⟨Nat.succ_le_succ hf9, by show 8 + (5 + 11) + r9.locals ≤ 340; omega⟩ rfl rfl rfl rfl rfl (Nat.le_of_ble_eq_true rfl) dL_setDamping_5 (Nat.le_of_ble_eq_true rfl) (Nat.le_of_ble_eq_true rfl)) isC hC [{ startPc := 0, endPc := 10, handlerPc := 13, catchType := 13 }] [] rfl (fun z hz => by rw [List.mem_singleton] at hz; subst hz; exact ⟨by decide, "java/lang/IndexOutOfBoundsException", (List.mem_of_getElem? (i := 1) rfl), T.2.2.2.2.2.1.2.1⟩) (by decide) (by decide) (List.mem_of_getElem? (i := 2) rfl) (List.mem_append_right _ (List.mem_append_left _ (by decide +kernel))) (fun q => ?_)
  refine sw_astore (pc := 17) (lv' := [(4, .ref q), (0, .ref h), (1, .int a1), (2, .int a2), (3, .ref o)]) F T.1 dL_setDamping_17 (by decide) rfl ?_
  refine sw_iconst (pc := 19) (v := 2) F dL_setDamping_19 rfl ?_
  exact sy_iret (pc := 20) F T rfl rfl () rfl rfl dL_setDamping_20
set_option maxHeartbeats 4000000 in
set_option maxRecDepth 100000 in
theorem k_L_setMode (l : Launch) (G : sw_E) (h : Nat) (a1 : Int32) (o : Nat) (ov : Nat → Int64) (fs : List Value) (wc : va_W) {S : Type} {post : Int32 → S → Prop} {wf : S → va_W} {r9 : Room} (M : sw_M l G yX9_setMode wsX9_setMode r9 [.ref h, .int a1] ((h, .inr (9, fs)) :: wc) (sw_QI G post wf) 0 0) (hc9 : r9.cells = 0) (hs9 : r9.slots = 0) (hf9 : r9.frames ≤ 9) (hl9 : r9.locals ≤ 300) : sy_M l G yL_setMode wsL_setMode ({ frames := 10, cells := 0, slots := 0, locals := 340 } : Room) [.ref h, .int a1, .ref o] ((o, .inl (G.2.1.2, 1, .inr (.inl ov))) :: (h, .inr (9, fs)) :: wc) (sw_QI G (S := Int32 × S) (fun (r : Int32) (u : Int32 × S) => r = 0 ∧ post u.1 u.2) (fun u => (o, .inl (G.2.1.2, 1, .inr (.inl (vp_updL ov 0 u.1.toInt64)))) :: wf u.2)) 0 0 := by
  refine sy_start (cc := cL_setMode) (maxL := 4) (ret := some .int) (hh := [(0, 9, 12, 15)]) (lv := [(0, .ref h), (1, .int a1), (2, .ref o)]) (own := RL) (by decide +kernel) rfl rfl rfl (Nat.le_of_ble_eq_true rfl) (fun C F T => ?_)
  refine sw_aload_n (pc := 0) F dL_setMode_0 rfl 2 rfl ?_
  refine sw_iconst (pc := 1) (v := 0) F dL_setMode_1 rfl ?_
  refine sw_aload_n (pc := 2) F dL_setMode_2 rfl 0 rfl ?_
  refine sw_iload_n (pc := 3) F dL_setMode_3 rfl 1 rfl ?_
  refine sw_calli (pc := 4) (wr := [(o, .inl (G.2.1.2, 1, .inr (.inl ov)))]) (k' := 0) (n' := 0) F (sw_runV (R := ({ frames := 10, cells := 0, slots := 0, locals := 340 } : Room)) (q0 := 0) (na := 1) (ci := 9) F T.2.1 T.2.2.1 M (sy_is ((h, .inr (9, fs)) :: wc)) (sy_is_map _ _) (sy_is_nd _) gL_setMode_X9_setMode rfl hc9 hs9 (by decide +kernel) ⟨Nat.succ_le_succ hf9, by show 8 + (3 + 11) + r9.locals ≤ 340; omega⟩ rfl rfl rfl rfl rfl (Nat.le_of_ble_eq_true rfl) dL_setMode_4 (Nat.le_of_ble_eq_true rfl) (Nat.le_of_ble_eq_true rfl)) (sy_is ((h, .inr (9, fs)) :: wc)) [0] (sy_is_map _ _) rfl (by decide) (sy_is_dis _) rfl rfl (fun r u hp => ?_)
  refine sw_i2l (pc := 7) F dL_setMode_7 rfl ?_
  refine sw_last (pc := 8) (ws' := (o, .inl (G.2.1.2, 1, .inr (.inl (vp_updL ov 0 r.toInt64)))) :: wf u) F 0 rfl (sw_in rfl) dL_setMode_8 rfl ?_
  refine sw_goto (pc := 9) (tgt := 15) F dL_setMode_9 (by decide) ?_
  refine sw_iconst (pc := 15) (v := 0) F dL_setMode_15 rfl ?_
  exact sy_iret (pc := 16) F T rfl rfl (r, u) ⟨rfl, hp⟩ rfl dL_setMode_16
set_option maxHeartbeats 4000000 in
set_option maxRecDepth 100000 in
theorem kt_L_setMode_1 (l : Launch) (G : sw_E) (h : Nat) (a1 : Int32) (o : Nat) (ov : Nat → Int64) (fs : List Value) (wc wq : va_W) (isC : List Nat) (hC : isC.map (fun i => (((o, .inl (G.2.1.2, 1, .inr (.inl ov))) :: (h, .inr (9, fs)) :: wc))[i]?) = wq.map some) (hnd : va_nd isC = true) {r9 : Room} (M : sx_M l G yX9_setMode wsX9_setMode r9 [.ref h, .int a1] wq (sx_QI G) "java/lang/IllegalArgumentException") (hc9 : r9.cells = 1) (hs9 : r9.slots = 6) (hf9 : r9.frames ≤ 9) (hl9 : r9.locals ≤ 300) : sy_M l G yL_setMode wsL_setMode ({ frames := 10, cells := 1, slots := 6, locals := 340 } : Room) [.ref h, .int a1, .ref o] ((o, .inl (G.2.1.2, 1, .inr (.inl ov))) :: (h, .inr (9, fs)) :: wc) (sw_QI G (S := Unit) (fun (r : Int32) (u : Unit) => r = 1) (fun _ => ((o, .inl (G.2.1.2, 1, .inr (.inl ov))) :: (h, .inr (9, fs)) :: wc))) 1 6 := by
  refine sy_start (cc := cL_setMode) (maxL := 4) (ret := some .int) (hh := [(0, 9, 12, 15)]) (lv := [(0, .ref h), (1, .int a1), (2, .ref o)]) (own := RL) (by decide +kernel) rfl rfl rfl (Nat.le_of_ble_eq_true rfl) (fun C F T => ?_)
  refine sw_aload_n (pc := 0) F dL_setMode_0 rfl 2 rfl ?_
  refine sw_iconst (pc := 1) (v := 0) F dL_setMode_1 rfl ?_
  refine sw_aload_n (pc := 2) F dL_setMode_2 rfl 0 rfl ?_
  refine sw_iload_n (pc := 3) F dL_setMode_3 rfl 1 rfl ?_
  refine sy_calli (pc := 4) (x := { startPc := 0, endPc := 9, handlerPc := 12, catchType := 15 }) F T (sx_runV (R := ({ frames := 10, cells := 1, slots := 6, locals := 340 } : Room)) (q0 := 1) (na := 1) (ci := 9) F T.2.2.2.2.2.1.1 T.2.1 T.2.2.1 M isC hC hnd gL_setMode_X9_setMode rfl hc9 hs9 (by decide +kernel) ⟨Nat.succ_le_succ hf9, by show 8 + (3 + 11) + r9.locals ≤ 340; omega⟩ rfl rfl rfl rfl rfl (Nat.le_of_ble_eq_true rfl) dL_setMode_4 (Nat.le_of_ble_eq_true rfl) (Nat.le_of_ble_eq_true rfl)) isC hC [] [] rfl (fun z hz => nomatch hz) (by decide) (by decide) (List.mem_of_getElem? (i := 1) rfl) (List.mem_append_right _ (List.mem_append_left _ (by decide +kernel))) (fun q => ?_)
  refine sw_astore_n (pc := 12) (lv' := [(3, .ref q), (0, .ref h), (1, .int a1), (2, .ref o)]) F T.1 dL_setMode_12 rfl (by decide) rfl ?_
  refine sw_iconst (pc := 13) (v := 1) F dL_setMode_13 rfl ?_
  exact sy_iret (pc := 14) F T rfl rfl () rfl rfl dL_setMode_14
set_option maxHeartbeats 4000000 in
set_option maxRecDepth 100000 in
theorem k_L_setDensity (l : Launch) (G : sw_E) (h : Nat) (a1 : Int32) (a2 : Int32) (o : Nat) (ov : Nat → Int64) (fs : List Value) (wc : va_W) {S : Type} {post : Int32 → S → Prop} {wf : S → va_W} {r9 : Room} (M : sw_M l G yX9_setDensity wsX9_setDensity r9 [.ref h, .int a1, .int a2] ((h, .inr (9, fs)) :: wc) (sw_QI G post wf) 0 0) (hc9 : r9.cells = 0) (hs9 : r9.slots = 0) (hf9 : r9.frames ≤ 9) (hl9 : r9.locals ≤ 300) : sy_M l G yL_setDensity wsL_setDensity ({ frames := 10, cells := 0, slots := 0, locals := 340 } : Room) [.ref h, .int a1, .int a2, .ref o] ((o, .inl (G.2.1.2, 1, .inr (.inl ov))) :: (h, .inr (9, fs)) :: wc) (sw_QI G (S := Int32 × S) (fun (r : Int32) (u : Int32 × S) => r = 0 ∧ post u.1 u.2) (fun u => (o, .inl (G.2.1.2, 1, .inr (.inl (vp_updL ov 0 u.1.toInt64)))) :: wf u.2)) 0 0 := by
  refine sy_start (cc := cL_setDensity) (maxL := 5) (ret := some .int) (hh := [(0, 10, 13, 13), (0, 10, 17, 15)]) (lv := [(0, .ref h), (1, .int a1), (2, .int a2), (3, .ref o)]) (own := RL) (by decide +kernel) rfl rfl rfl (Nat.le_of_ble_eq_true rfl) (fun C F T => ?_)
  refine sw_aload_n (pc := 0) F dL_setDensity_0 rfl 3 rfl ?_
  refine sw_iconst (pc := 1) (v := 0) F dL_setDensity_1 rfl ?_
  refine sw_aload_n (pc := 2) F dL_setDensity_2 rfl 0 rfl ?_
  refine sw_iload_n (pc := 3) F dL_setDensity_3 rfl 1 rfl ?_
  refine sw_iload_n (pc := 4) F dL_setDensity_4 rfl 2 rfl ?_
  refine sw_calli (pc := 5) (wr := [(o, .inl (G.2.1.2, 1, .inr (.inl ov)))]) (k' := 0) (n' := 0) F (sw_runV (R := ({ frames := 10, cells := 0, slots := 0, locals := 340 } : Room)) (q0 := 0) (na := 2) (ci := 9) F T.2.1 T.2.2.1 M (sy_is ((h, .inr (9, fs)) :: wc)) (sy_is_map _ _) (sy_is_nd _) gL_setDensity_X9_setDensity rfl hc9 hs9 (by decide +kernel) ⟨Nat.succ_le_succ hf9, by show 8 + (4 + 11) + r9.locals ≤ 340; omega⟩ rfl rfl rfl rfl rfl (Nat.le_of_ble_eq_true rfl) dL_setDensity_5 (Nat.le_of_ble_eq_true rfl) (Nat.le_of_ble_eq_true rfl)) (sy_is ((h, .inr (9, fs)) :: wc)) [0] (sy_is_map _ _) rfl (by decide) (sy_is_dis _) rfl rfl (fun r u hp => ?_)
  refine sw_i2l (pc := 8) F dL_setDensity_8 rfl ?_
  refine sw_last (pc := 9) (ws' := (o, .inl (G.2.1.2, 1, .inr (.inl (vp_updL ov 0 r.toInt64)))) :: wf u) F 0 rfl (sw_in rfl) dL_setDensity_9 rfl ?_
  refine sw_goto (pc := 10) (tgt := 21) F dL_setDensity_10 (by decide) ?_
  refine sw_iconst (pc := 21) (v := 0) F dL_setDensity_21 rfl ?_
  exact sy_iret (pc := 22) F T rfl rfl (r, u) ⟨rfl, hp⟩ rfl dL_setDensity_22
set_option maxHeartbeats 4000000 in
set_option maxRecDepth 100000 in
theorem kt_L_setDensity_1 (l : Launch) (G : sw_E) (h : Nat) (a1 : Int32) (a2 : Int32) (o : Nat) (ov : Nat → Int64) (fs : List Value) (wc wq : va_W) (isC : List Nat) (hC : isC.map (fun i => (((o, .inl (G.2.1.2, 1, .inr (.inl ov))) :: (h, .inr (9, fs)) :: wc))[i]?) = wq.map some) (hnd : va_nd isC = true) {r9 : Room} (M : sx_M l G yX9_setDensity wsX9_setDensity r9 [.ref h, .int a1, .int a2] wq (sx_QI G) "java/lang/IndexOutOfBoundsException") (hc9 : r9.cells = 1) (hs9 : r9.slots = 6) (hf9 : r9.frames ≤ 9) (hl9 : r9.locals ≤ 300) : sy_M l G yL_setDensity wsL_setDensity ({ frames := 10, cells := 1, slots := 6, locals := 340 } : Room) [.ref h, .int a1, .int a2, .ref o] ((o, .inl (G.2.1.2, 1, .inr (.inl ov))) :: (h, .inr (9, fs)) :: wc) (sw_QI G (S := Unit) (fun (r : Int32) (u : Unit) => r = 1) (fun _ => ((o, .inl (G.2.1.2, 1, .inr (.inl ov))) :: (h, .inr (9, fs)) :: wc))) 1 6 := by
  refine sy_start (cc := cL_setDensity) (maxL := 5) (ret := some .int) (hh := [(0, 10, 13, 13), (0, 10, 17, 15)]) (lv := [(0, .ref h), (1, .int a1), (2, .int a2), (3, .ref o)]) (own := RL) (by decide +kernel) rfl rfl rfl (Nat.le_of_ble_eq_true rfl) (fun C F T => ?_)
  refine sw_aload_n (pc := 0) F dL_setDensity_0 rfl 3 rfl ?_
  refine sw_iconst (pc := 1) (v := 0) F dL_setDensity_1 rfl ?_
  refine sw_aload_n (pc := 2) F dL_setDensity_2 rfl 0 rfl ?_
  refine sw_iload_n (pc := 3) F dL_setDensity_3 rfl 1 rfl ?_
  refine sw_iload_n (pc := 4) F dL_setDensity_4 rfl 2 rfl ?_
  refine sy_calli (pc := 5) (x := { startPc := 0, endPc := 10, handlerPc := 13, catchType := 13 }) F T (sx_runV (R := ({ frames := 10, cells := 1, slots := 6, locals := 340 } : Room)) (q0 := 1) (na := 2) (ci := 9) F T.2.2.2.2.2.1.1 T.2.1 T.2.2.1 M isC hC hnd gL_setDensity_X9_setDensity rfl hc9 hs9 (by decide +kernel) ⟨Nat.succ_le_succ hf9, by show 8 + (4 + 11) + r9.locals ≤ 340; omega⟩ rfl rfl rfl rfl rfl (Nat.le_of_ble_eq_true rfl) dL_setDensity_5 (Nat.le_of_ble_eq_true rfl) (Nat.le_of_ble_eq_true rfl)) isC hC [] [{ startPc := 0, endPc := 10, handlerPc := 17, catchType := 15 }] rfl (fun z hz => nomatch hz) (by decide) (by decide) (List.mem_of_getElem? (i := 1) rfl) (List.mem_append_left _ (by decide +kernel)) (fun q => ?_)
  refine sw_astore (pc := 13) (lv' := [(4, .ref q), (0, .ref h), (1, .int a1), (2, .int a2), (3, .ref o)]) F T.1 dL_setDensity_13 (by decide) rfl ?_
  refine sw_iconst (pc := 15) (v := 1) F dL_setDensity_15 rfl ?_
  exact sy_iret (pc := 16) F T rfl rfl () rfl rfl dL_setDensity_16
set_option maxHeartbeats 4000000 in
set_option maxRecDepth 100000 in
theorem kt_L_setDensity_2 (l : Launch) (G : sw_E) (h : Nat) (a1 : Int32) (a2 : Int32) (o : Nat) (ov : Nat → Int64) (fs : List Value) (wc wq : va_W) (isC : List Nat) (hC : isC.map (fun i => (((o, .inl (G.2.1.2, 1, .inr (.inl ov))) :: (h, .inr (9, fs)) :: wc))[i]?) = wq.map some) (hnd : va_nd isC = true) {r9 : Room} (M : sx_M l G yX9_setDensity wsX9_setDensity r9 [.ref h, .int a1, .int a2] wq (sx_QI G) "java/lang/IllegalArgumentException") (hc9 : r9.cells = 1) (hs9 : r9.slots = 6) (hf9 : r9.frames ≤ 9) (hl9 : r9.locals ≤ 300) : sy_M l G yL_setDensity wsL_setDensity ({ frames := 10, cells := 1, slots := 6, locals := 340 } : Room) [.ref h, .int a1, .int a2, .ref o] ((o, .inl (G.2.1.2, 1, .inr (.inl ov))) :: (h, .inr (9, fs)) :: wc) (sw_QI G (S := Unit) (fun (r : Int32) (u : Unit) => r = 2) (fun _ => ((o, .inl (G.2.1.2, 1, .inr (.inl ov))) :: (h, .inr (9, fs)) :: wc))) 1 6 := by
  refine sy_start (cc := cL_setDensity) (maxL := 5) (ret := some .int) (hh := [(0, 10, 13, 13), (0, 10, 17, 15)]) (lv := [(0, .ref h), (1, .int a1), (2, .int a2), (3, .ref o)]) (own := RL) (by decide +kernel) rfl rfl rfl (Nat.le_of_ble_eq_true rfl) (fun C F T => ?_)
  refine sw_aload_n (pc := 0) F dL_setDensity_0 rfl 3 rfl ?_
  refine sw_iconst (pc := 1) (v := 0) F dL_setDensity_1 rfl ?_
  refine sw_aload_n (pc := 2) F dL_setDensity_2 rfl 0 rfl ?_
  refine sw_iload_n (pc := 3) F dL_setDensity_3 rfl 1 rfl ?_
  refine sw_iload_n (pc := 4) F dL_setDensity_4 rfl 2 rfl ?_
  refine sy_calli (pc := 5) (x := { startPc := 0, endPc := 10, handlerPc := 17, catchType := 15 }) F T (sx_runV (R := ({ frames := 10, cells := 1, slots := 6, locals := 340 } : Room)) (q0 := 1) (na := 2) (ci := 9) F T.2.2.2.2.2.1.1 T.2.1 T.2.2.1 M isC hC hnd gL_setDensity_X9_setDensity rfl hc9 hs9 (by decide +kernel) ⟨Nat.succ_le_succ hf9, by show 8 + (4 + 11) + r9.locals ≤ 340; omega⟩ rfl rfl rfl rfl rfl (Nat.le_of_ble_eq_true rfl) dL_setDensity_5 (Nat.le_of_ble_eq_true rfl) (Nat.le_of_ble_eq_true rfl)) isC hC [{ startPc := 0, endPc := 10, handlerPc := 13, catchType := 13 }] [] rfl (fun z hz => by rw [List.mem_singleton] at hz; subst hz; exact ⟨by decide, "java/lang/IndexOutOfBoundsException", (List.mem_of_getElem? (i := 1) rfl), T.2.2.2.2.2.1.2.1⟩) (by decide) (by decide) (List.mem_of_getElem? (i := 2) rfl) (List.mem_append_right _ (List.mem_append_left _ (by decide +kernel))) (fun q => ?_)
  refine sw_astore (pc := 17) (lv' := [(4, .ref q), (0, .ref h), (1, .int a1), (2, .int a2), (3, .ref o)]) F T.1 dL_setDensity_17 (by decide) rfl ?_
  refine sw_iconst (pc := 19) (v := 2) F dL_setDensity_19 rfl ?_
  exact sy_iret (pc := 20) F T rfl rfl () rfl rfl dL_setDensity_20
set_option maxHeartbeats 4000000 in
set_option maxRecDepth 100000 in
theorem k_L_setFactor (l : Launch) (G : sw_E) (h : Nat) (a1 : Int32) (a2 : Int32) (o : Nat) (ov : Nat → Int64) (fs : List Value) (wc : va_W) {S : Type} {post : Int32 → S → Prop} {wf : S → va_W} {r9 : Room} (M : sw_M l G yX9_setFactor wsX9_setFactor r9 [.ref h, .int a1, .int a2] ((h, .inr (9, fs)) :: wc) (sw_QI G post wf) 0 0) (hc9 : r9.cells = 0) (hs9 : r9.slots = 0) (hf9 : r9.frames ≤ 9) (hl9 : r9.locals ≤ 300) : sy_M l G yL_setFactor wsL_setFactor ({ frames := 10, cells := 0, slots := 0, locals := 340 } : Room) [.ref h, .int a1, .int a2, .ref o] ((o, .inl (G.2.1.2, 1, .inr (.inl ov))) :: (h, .inr (9, fs)) :: wc) (sw_QI G (S := Int32 × S) (fun (r : Int32) (u : Int32 × S) => r = 0 ∧ post u.1 u.2) (fun u => (o, .inl (G.2.1.2, 1, .inr (.inl (vp_updL ov 0 u.1.toInt64)))) :: wf u.2)) 0 0 := by
  refine sy_start (cc := cL_setFactor) (maxL := 5) (ret := some .int) (hh := [(0, 10, 13, 13), (0, 10, 17, 15)]) (lv := [(0, .ref h), (1, .int a1), (2, .int a2), (3, .ref o)]) (own := RL) (by decide +kernel) rfl rfl rfl (Nat.le_of_ble_eq_true rfl) (fun C F T => ?_)
  refine sw_aload_n (pc := 0) F dL_setFactor_0 rfl 3 rfl ?_
  refine sw_iconst (pc := 1) (v := 0) F dL_setFactor_1 rfl ?_
  refine sw_aload_n (pc := 2) F dL_setFactor_2 rfl 0 rfl ?_
  refine sw_iload_n (pc := 3) F dL_setFactor_3 rfl 1 rfl ?_
  refine sw_iload_n (pc := 4) F dL_setFactor_4 rfl 2 rfl ?_
  refine sw_calli (pc := 5) (wr := [(o, .inl (G.2.1.2, 1, .inr (.inl ov)))]) (k' := 0) (n' := 0) F (sw_runV (R := ({ frames := 10, cells := 0, slots := 0, locals := 340 } : Room)) (q0 := 0) (na := 2) (ci := 9) F T.2.1 T.2.2.1 M (sy_is ((h, .inr (9, fs)) :: wc)) (sy_is_map _ _) (sy_is_nd _) gL_setFactor_X9_setFactor rfl hc9 hs9 (by decide +kernel) ⟨Nat.succ_le_succ hf9, by show 8 + (4 + 11) + r9.locals ≤ 340; omega⟩ rfl rfl rfl rfl rfl (Nat.le_of_ble_eq_true rfl) dL_setFactor_5 (Nat.le_of_ble_eq_true rfl) (Nat.le_of_ble_eq_true rfl)) (sy_is ((h, .inr (9, fs)) :: wc)) [0] (sy_is_map _ _) rfl (by decide) (sy_is_dis _) rfl rfl (fun r u hp => ?_)
  refine sw_i2l (pc := 8) F dL_setFactor_8 rfl ?_
  refine sw_last (pc := 9) (ws' := (o, .inl (G.2.1.2, 1, .inr (.inl (vp_updL ov 0 r.toInt64)))) :: wf u) F 0 rfl (sw_in rfl) dL_setFactor_9 rfl ?_
  refine sw_goto (pc := 10) (tgt := 21) F dL_setFactor_10 (by decide) ?_
  refine sw_iconst (pc := 21) (v := 0) F dL_setFactor_21 rfl ?_
  exact sy_iret (pc := 22) F T rfl rfl (r, u) ⟨rfl, hp⟩ rfl dL_setFactor_22
set_option maxHeartbeats 4000000 in
set_option maxRecDepth 100000 in
theorem kt_L_setFactor_1 (l : Launch) (G : sw_E) (h : Nat) (a1 : Int32) (a2 : Int32) (o : Nat) (ov : Nat → Int64) (fs : List Value) (wc wq : va_W) (isC : List Nat) (hC : isC.map (fun i => (((o, .inl (G.2.1.2, 1, .inr (.inl ov))) :: (h, .inr (9, fs)) :: wc))[i]?) = wq.map some) (hnd : va_nd isC = true) {r9 : Room} (M : sx_M l G yX9_setFactor wsX9_setFactor r9 [.ref h, .int a1, .int a2] wq (sx_QI G) "java/lang/IndexOutOfBoundsException") (hc9 : r9.cells = 1) (hs9 : r9.slots = 6) (hf9 : r9.frames ≤ 9) (hl9 : r9.locals ≤ 300) : sy_M l G yL_setFactor wsL_setFactor ({ frames := 10, cells := 1, slots := 6, locals := 340 } : Room) [.ref h, .int a1, .int a2, .ref o] ((o, .inl (G.2.1.2, 1, .inr (.inl ov))) :: (h, .inr (9, fs)) :: wc) (sw_QI G (S := Unit) (fun (r : Int32) (u : Unit) => r = 1) (fun _ => ((o, .inl (G.2.1.2, 1, .inr (.inl ov))) :: (h, .inr (9, fs)) :: wc))) 1 6 := by
  refine sy_start (cc := cL_setFactor) (maxL := 5) (ret := some .int) (hh := [(0, 10, 13, 13), (0, 10, 17, 15)]) (lv := [(0, .ref h), (1, .int a1), (2, .int a2), (3, .ref o)]) (own := RL) (by decide +kernel) rfl rfl rfl (Nat.le_of_ble_eq_true rfl) (fun C F T => ?_)
  refine sw_aload_n (pc := 0) F dL_setFactor_0 rfl 3 rfl ?_
  refine sw_iconst (pc := 1) (v := 0) F dL_setFactor_1 rfl ?_
  refine sw_aload_n (pc := 2) F dL_setFactor_2 rfl 0 rfl ?_
  refine sw_iload_n (pc := 3) F dL_setFactor_3 rfl 1 rfl ?_
  refine sw_iload_n (pc := 4) F dL_setFactor_4 rfl 2 rfl ?_
  refine sy_calli (pc := 5) (x := { startPc := 0, endPc := 10, handlerPc := 13, catchType := 13 }) F T (sx_runV (R := ({ frames := 10, cells := 1, slots := 6, locals := 340 } : Room)) (q0 := 1) (na := 2) (ci := 9) F T.2.2.2.2.2.1.1 T.2.1 T.2.2.1 M isC hC hnd gL_setFactor_X9_setFactor rfl hc9 hs9 (by decide +kernel) ⟨Nat.succ_le_succ hf9, by show 8 + (4 + 11) + r9.locals ≤ 340; omega⟩ rfl rfl rfl rfl rfl (Nat.le_of_ble_eq_true rfl) dL_setFactor_5 (Nat.le_of_ble_eq_true rfl) (Nat.le_of_ble_eq_true rfl)) isC hC [] [{ startPc := 0, endPc := 10, handlerPc := 17, catchType := 15 }] rfl (fun z hz => nomatch hz) (by decide) (by decide) (List.mem_of_getElem? (i := 1) rfl) (List.mem_append_left _ (by decide +kernel)) (fun q => ?_)
  refine sw_astore (pc := 13) (lv' := [(4, .ref q), (0, .ref h), (1, .int a1), (2, .int a2), (3, .ref o)]) F T.1 dL_setFactor_13 (by decide) rfl ?_
  refine sw_iconst (pc := 15) (v := 1) F dL_setFactor_15 rfl ?_
  exact sy_iret (pc := 16) F T rfl rfl () rfl rfl dL_setFactor_16
set_option maxHeartbeats 4000000 in
set_option maxRecDepth 100000 in
theorem kt_L_setFactor_2 (l : Launch) (G : sw_E) (h : Nat) (a1 : Int32) (a2 : Int32) (o : Nat) (ov : Nat → Int64) (fs : List Value) (wc wq : va_W) (isC : List Nat) (hC : isC.map (fun i => (((o, .inl (G.2.1.2, 1, .inr (.inl ov))) :: (h, .inr (9, fs)) :: wc))[i]?) = wq.map some) (hnd : va_nd isC = true) {r9 : Room} (M : sx_M l G yX9_setFactor wsX9_setFactor r9 [.ref h, .int a1, .int a2] wq (sx_QI G) "java/lang/IllegalArgumentException") (hc9 : r9.cells = 1) (hs9 : r9.slots = 6) (hf9 : r9.frames ≤ 9) (hl9 : r9.locals ≤ 300) : sy_M l G yL_setFactor wsL_setFactor ({ frames := 10, cells := 1, slots := 6, locals := 340 } : Room) [.ref h, .int a1, .int a2, .ref o] ((o, .inl (G.2.1.2, 1, .inr (.inl ov))) :: (h, .inr (9, fs)) :: wc) (sw_QI G (S := Unit) (fun (r : Int32) (u : Unit) => r = 2) (fun _ => ((o, .inl (G.2.1.2, 1, .inr (.inl ov))) :: (h, .inr (9, fs)) :: wc))) 1 6 := by
  refine sy_start (cc := cL_setFactor) (maxL := 5) (ret := some .int) (hh := [(0, 10, 13, 13), (0, 10, 17, 15)]) (lv := [(0, .ref h), (1, .int a1), (2, .int a2), (3, .ref o)]) (own := RL) (by decide +kernel) rfl rfl rfl (Nat.le_of_ble_eq_true rfl) (fun C F T => ?_)
  refine sw_aload_n (pc := 0) F dL_setFactor_0 rfl 3 rfl ?_
  refine sw_iconst (pc := 1) (v := 0) F dL_setFactor_1 rfl ?_
  refine sw_aload_n (pc := 2) F dL_setFactor_2 rfl 0 rfl ?_
  refine sw_iload_n (pc := 3) F dL_setFactor_3 rfl 1 rfl ?_
  refine sw_iload_n (pc := 4) F dL_setFactor_4 rfl 2 rfl ?_
  refine sy_calli (pc := 5) (x := { startPc := 0, endPc := 10, handlerPc := 17, catchType := 15 }) F T (sx_runV (R := ({ frames := 10, cells := 1, slots := 6, locals := 340 } : Room)) (q0 := 1) (na := 2) (ci := 9) F T.2.2.2.2.2.1.1 T.2.1 T.2.2.1 M isC hC hnd gL_setFactor_X9_setFactor rfl hc9 hs9 (by decide +kernel) ⟨Nat.succ_le_succ hf9, by show 8 + (4 + 11) + r9.locals ≤ 340; omega⟩ rfl rfl rfl rfl rfl (Nat.le_of_ble_eq_true rfl) dL_setFactor_5 (Nat.le_of_ble_eq_true rfl) (Nat.le_of_ble_eq_true rfl)) isC hC [{ startPc := 0, endPc := 10, handlerPc := 13, catchType := 13 }] [] rfl (fun z hz => by rw [List.mem_singleton] at hz; subst hz; exact ⟨by decide, "java/lang/IndexOutOfBoundsException", (List.mem_of_getElem? (i := 1) rfl), T.2.2.2.2.2.1.2.1⟩) (by decide) (by decide) (List.mem_of_getElem? (i := 2) rfl) (List.mem_append_right _ (List.mem_append_left _ (by decide +kernel))) (fun q => ?_)
  refine sw_astore (pc := 17) (lv' := [(4, .ref q), (0, .ref h), (1, .int a1), (2, .int a2), (3, .ref o)]) F T.1 dL_setFactor_17 (by decide) rfl ?_
  refine sw_iconst (pc := 19) (v := 2) F dL_setFactor_19 rfl ?_
  exact sy_iret (pc := 20) F T rfl rfl () rfl rfl dL_setFactor_20
set_option maxHeartbeats 4000000 in
set_option maxRecDepth 100000 in
theorem k_L_setMeter (l : Launch) (G : sw_E) (h : Nat) (a1 : Int32) (o : Nat) (ov : Nat → Int64) (fs : List Value) (wc : va_W) {S : Type} {post : Int32 → S → Prop} {wf : S → va_W} {r9 : Room} (M : sw_M l G yX9_setMeter wsX9_setMeter r9 [.ref h, .int a1] ((h, .inr (9, fs)) :: wc) (sw_QI G post wf) 0 0) (hc9 : r9.cells = 0) (hs9 : r9.slots = 0) (hf9 : r9.frames ≤ 9) (hl9 : r9.locals ≤ 300) : sy_M l G yL_setMeter wsL_setMeter ({ frames := 10, cells := 0, slots := 0, locals := 340 } : Room) [.ref h, .int a1, .ref o] ((o, .inl (G.2.1.2, 1, .inr (.inl ov))) :: (h, .inr (9, fs)) :: wc) (sw_QI G (S := Int32 × S) (fun (r : Int32) (u : Int32 × S) => r = 0 ∧ post u.1 u.2) (fun u => (o, .inl (G.2.1.2, 1, .inr (.inl (vp_updL ov 0 u.1.toInt64)))) :: wf u.2)) 0 0 := by
  refine sy_start (cc := cL_setMeter) (maxL := 4) (ret := some .int) (hh := [(0, 9, 12, 15)]) (lv := [(0, .ref h), (1, .int a1), (2, .ref o)]) (own := RL) (by decide +kernel) rfl rfl rfl (Nat.le_of_ble_eq_true rfl) (fun C F T => ?_)
  refine sw_aload_n (pc := 0) F dL_setMeter_0 rfl 2 rfl ?_
  refine sw_iconst (pc := 1) (v := 0) F dL_setMeter_1 rfl ?_
  refine sw_aload_n (pc := 2) F dL_setMeter_2 rfl 0 rfl ?_
  refine sw_iload_n (pc := 3) F dL_setMeter_3 rfl 1 rfl ?_
  refine sw_calli (pc := 4) (wr := [(o, .inl (G.2.1.2, 1, .inr (.inl ov)))]) (k' := 0) (n' := 0) F (sw_runV (R := ({ frames := 10, cells := 0, slots := 0, locals := 340 } : Room)) (q0 := 0) (na := 1) (ci := 9) F T.2.1 T.2.2.1 M (sy_is ((h, .inr (9, fs)) :: wc)) (sy_is_map _ _) (sy_is_nd _) gL_setMeter_X9_setMeter rfl hc9 hs9 (by decide +kernel) ⟨Nat.succ_le_succ hf9, by show 8 + (3 + 11) + r9.locals ≤ 340; omega⟩ rfl rfl rfl rfl rfl (Nat.le_of_ble_eq_true rfl) dL_setMeter_4 (Nat.le_of_ble_eq_true rfl) (Nat.le_of_ble_eq_true rfl)) (sy_is ((h, .inr (9, fs)) :: wc)) [0] (sy_is_map _ _) rfl (by decide) (sy_is_dis _) rfl rfl (fun r u hp => ?_)
  refine sw_i2l (pc := 7) F dL_setMeter_7 rfl ?_
  refine sw_last (pc := 8) (ws' := (o, .inl (G.2.1.2, 1, .inr (.inl (vp_updL ov 0 r.toInt64)))) :: wf u) F 0 rfl (sw_in rfl) dL_setMeter_8 rfl ?_
  refine sw_goto (pc := 9) (tgt := 15) F dL_setMeter_9 (by decide) ?_
  refine sw_iconst (pc := 15) (v := 0) F dL_setMeter_15 rfl ?_
  exact sy_iret (pc := 16) F T rfl rfl (r, u) ⟨rfl, hp⟩ rfl dL_setMeter_16
set_option maxHeartbeats 4000000 in
set_option maxRecDepth 100000 in
theorem kt_L_setMeter_1 (l : Launch) (G : sw_E) (h : Nat) (a1 : Int32) (o : Nat) (ov : Nat → Int64) (fs : List Value) (wc wq : va_W) (isC : List Nat) (hC : isC.map (fun i => (((o, .inl (G.2.1.2, 1, .inr (.inl ov))) :: (h, .inr (9, fs)) :: wc))[i]?) = wq.map some) (hnd : va_nd isC = true) {r9 : Room} (M : sx_M l G yX9_setMeter wsX9_setMeter r9 [.ref h, .int a1] wq (sx_QI G) "java/lang/IllegalArgumentException") (hc9 : r9.cells = 1) (hs9 : r9.slots = 6) (hf9 : r9.frames ≤ 9) (hl9 : r9.locals ≤ 300) : sy_M l G yL_setMeter wsL_setMeter ({ frames := 10, cells := 1, slots := 6, locals := 340 } : Room) [.ref h, .int a1, .ref o] ((o, .inl (G.2.1.2, 1, .inr (.inl ov))) :: (h, .inr (9, fs)) :: wc) (sw_QI G (S := Unit) (fun (r : Int32) (u : Unit) => r = 1) (fun _ => ((o, .inl (G.2.1.2, 1, .inr (.inl ov))) :: (h, .inr (9, fs)) :: wc))) 1 6 := by
  refine sy_start (cc := cL_setMeter) (maxL := 4) (ret := some .int) (hh := [(0, 9, 12, 15)]) (lv := [(0, .ref h), (1, .int a1), (2, .ref o)]) (own := RL) (by decide +kernel) rfl rfl rfl (Nat.le_of_ble_eq_true rfl) (fun C F T => ?_)
  refine sw_aload_n (pc := 0) F dL_setMeter_0 rfl 2 rfl ?_
  refine sw_iconst (pc := 1) (v := 0) F dL_setMeter_1 rfl ?_
  refine sw_aload_n (pc := 2) F dL_setMeter_2 rfl 0 rfl ?_
  refine sw_iload_n (pc := 3) F dL_setMeter_3 rfl 1 rfl ?_
  refine sy_calli (pc := 4) (x := { startPc := 0, endPc := 9, handlerPc := 12, catchType := 15 }) F T (sx_runV (R := ({ frames := 10, cells := 1, slots := 6, locals := 340 } : Room)) (q0 := 1) (na := 1) (ci := 9) F T.2.2.2.2.2.1.1 T.2.1 T.2.2.1 M isC hC hnd gL_setMeter_X9_setMeter rfl hc9 hs9 (by decide +kernel) ⟨Nat.succ_le_succ hf9, by show 8 + (3 + 11) + r9.locals ≤ 340; omega⟩ rfl rfl rfl rfl rfl (Nat.le_of_ble_eq_true rfl) dL_setMeter_4 (Nat.le_of_ble_eq_true rfl) (Nat.le_of_ble_eq_true rfl)) isC hC [] [] rfl (fun z hz => nomatch hz) (by decide) (by decide) (List.mem_of_getElem? (i := 1) rfl) (List.mem_append_right _ (List.mem_append_left _ (by decide +kernel))) (fun q => ?_)
  refine sw_astore_n (pc := 12) (lv' := [(3, .ref q), (0, .ref h), (1, .int a1), (2, .ref o)]) F T.1 dL_setMeter_12 rfl (by decide) rfl ?_
  refine sw_iconst (pc := 13) (v := 1) F dL_setMeter_13 rfl ?_
  exact sy_iret (pc := 14) F T rfl rfl () rfl rfl dL_setMeter_14
set_option maxHeartbeats 4000000 in
set_option maxRecDepth 100000 in
theorem k_L_setCutoff (l : Launch) (G : sw_E) (h : Nat) (a1 : Int32) (a2 : Int32) (o : Nat) (ov : Nat → Int64) (fs : List Value) (wc : va_W) {S : Type} {post : Int32 → S → Prop} {wf : S → va_W} {r9 : Room} (M : sw_M l G yX9_setCutoff wsX9_setCutoff r9 [.ref h, .int a1, .int a2] ((h, .inr (9, fs)) :: wc) (sw_QI G post wf) 0 0) (hc9 : r9.cells = 0) (hs9 : r9.slots = 0) (hf9 : r9.frames ≤ 9) (hl9 : r9.locals ≤ 300) : sy_M l G yL_setCutoff wsL_setCutoff ({ frames := 10, cells := 0, slots := 0, locals := 340 } : Room) [.ref h, .int a1, .int a2, .ref o] ((o, .inl (G.2.1.2, 1, .inr (.inl ov))) :: (h, .inr (9, fs)) :: wc) (sw_QI G (S := Int32 × S) (fun (r : Int32) (u : Int32 × S) => r = 0 ∧ post u.1 u.2) (fun u => (o, .inl (G.2.1.2, 1, .inr (.inl (vp_updL ov 0 u.1.toInt64)))) :: wf u.2)) 0 0 := by
  refine sy_start (cc := cL_setCutoff) (maxL := 5) (ret := some .int) (hh := [(0, 10, 13, 15)]) (lv := [(0, .ref h), (1, .int a1), (2, .int a2), (3, .ref o)]) (own := RL) (by decide +kernel) rfl rfl rfl (Nat.le_of_ble_eq_true rfl) (fun C F T => ?_)
  refine sw_aload_n (pc := 0) F dL_setCutoff_0 rfl 3 rfl ?_
  refine sw_iconst (pc := 1) (v := 0) F dL_setCutoff_1 rfl ?_
  refine sw_aload_n (pc := 2) F dL_setCutoff_2 rfl 0 rfl ?_
  refine sw_iload_n (pc := 3) F dL_setCutoff_3 rfl 1 rfl ?_
  refine sw_iload_n (pc := 4) F dL_setCutoff_4 rfl 2 rfl ?_
  refine sw_calli (pc := 5) (wr := [(o, .inl (G.2.1.2, 1, .inr (.inl ov)))]) (k' := 0) (n' := 0) F (sw_runV (R := ({ frames := 10, cells := 0, slots := 0, locals := 340 } : Room)) (q0 := 0) (na := 2) (ci := 9) F T.2.1 T.2.2.1 M (sy_is ((h, .inr (9, fs)) :: wc)) (sy_is_map _ _) (sy_is_nd _) gL_setCutoff_X9_setCutoff rfl hc9 hs9 (by decide +kernel) ⟨Nat.succ_le_succ hf9, by show 8 + (4 + 11) + r9.locals ≤ 340; omega⟩ rfl rfl rfl rfl rfl (Nat.le_of_ble_eq_true rfl) dL_setCutoff_5 (Nat.le_of_ble_eq_true rfl) (Nat.le_of_ble_eq_true rfl)) (sy_is ((h, .inr (9, fs)) :: wc)) [0] (sy_is_map _ _) rfl (by decide) (sy_is_dis _) rfl rfl (fun r u hp => ?_)
  refine sw_i2l (pc := 8) F dL_setCutoff_8 rfl ?_
  refine sw_last (pc := 9) (ws' := (o, .inl (G.2.1.2, 1, .inr (.inl (vp_updL ov 0 r.toInt64)))) :: wf u) F 0 rfl (sw_in rfl) dL_setCutoff_9 rfl ?_
  refine sw_goto (pc := 10) (tgt := 17) F dL_setCutoff_10 (by decide) ?_
  refine sw_iconst (pc := 17) (v := 0) F dL_setCutoff_17 rfl ?_
  exact sy_iret (pc := 18) F T rfl rfl (r, u) ⟨rfl, hp⟩ rfl dL_setCutoff_18
set_option maxHeartbeats 4000000 in
set_option maxRecDepth 100000 in
theorem kt_L_setCutoff_1 (l : Launch) (G : sw_E) (h : Nat) (a1 : Int32) (a2 : Int32) (o : Nat) (ov : Nat → Int64) (fs : List Value) (wc wq : va_W) (isC : List Nat) (hC : isC.map (fun i => (((o, .inl (G.2.1.2, 1, .inr (.inl ov))) :: (h, .inr (9, fs)) :: wc))[i]?) = wq.map some) (hnd : va_nd isC = true) {r9 : Room} (M : sx_M l G yX9_setCutoff wsX9_setCutoff r9 [.ref h, .int a1, .int a2] wq (sx_QI G) "java/lang/IllegalArgumentException") (hc9 : r9.cells = 1) (hs9 : r9.slots = 6) (hf9 : r9.frames ≤ 9) (hl9 : r9.locals ≤ 300) : sy_M l G yL_setCutoff wsL_setCutoff ({ frames := 10, cells := 1, slots := 6, locals := 340 } : Room) [.ref h, .int a1, .int a2, .ref o] ((o, .inl (G.2.1.2, 1, .inr (.inl ov))) :: (h, .inr (9, fs)) :: wc) (sw_QI G (S := Unit) (fun (r : Int32) (u : Unit) => r = 1) (fun _ => ((o, .inl (G.2.1.2, 1, .inr (.inl ov))) :: (h, .inr (9, fs)) :: wc))) 1 6 := by
  refine sy_start (cc := cL_setCutoff) (maxL := 5) (ret := some .int) (hh := [(0, 10, 13, 15)]) (lv := [(0, .ref h), (1, .int a1), (2, .int a2), (3, .ref o)]) (own := RL) (by decide +kernel) rfl rfl rfl (Nat.le_of_ble_eq_true rfl) (fun C F T => ?_)
  refine sw_aload_n (pc := 0) F dL_setCutoff_0 rfl 3 rfl ?_
  refine sw_iconst (pc := 1) (v := 0) F dL_setCutoff_1 rfl ?_
  refine sw_aload_n (pc := 2) F dL_setCutoff_2 rfl 0 rfl ?_
  refine sw_iload_n (pc := 3) F dL_setCutoff_3 rfl 1 rfl ?_
  refine sw_iload_n (pc := 4) F dL_setCutoff_4 rfl 2 rfl ?_
  refine sy_calli (pc := 5) (x := { startPc := 0, endPc := 10, handlerPc := 13, catchType := 15 }) F T (sx_runV (R := ({ frames := 10, cells := 1, slots := 6, locals := 340 } : Room)) (q0 := 1) (na := 2) (ci := 9) F T.2.2.2.2.2.1.1 T.2.1 T.2.2.1 M isC hC hnd gL_setCutoff_X9_setCutoff rfl hc9 hs9 (by decide +kernel) ⟨Nat.succ_le_succ hf9, by show 8 + (4 + 11) + r9.locals ≤ 340; omega⟩ rfl rfl rfl rfl rfl (Nat.le_of_ble_eq_true rfl) dL_setCutoff_5 (Nat.le_of_ble_eq_true rfl) (Nat.le_of_ble_eq_true rfl)) isC hC [] [] rfl (fun z hz => nomatch hz) (by decide) (by decide) (List.mem_of_getElem? (i := 1) rfl) (List.mem_append_right _ (List.mem_append_left _ (by decide +kernel))) (fun q => ?_)
  refine sw_astore (pc := 13) (lv' := [(4, .ref q), (0, .ref h), (1, .int a1), (2, .int a2), (3, .ref o)]) F T.1 dL_setCutoff_13 (by decide) rfl ?_
  refine sw_iconst (pc := 15) (v := 1) F dL_setCutoff_15 rfl ?_
  exact sy_iret (pc := 16) F T rfl rfl () rfl rfl dL_setCutoff_16
set_option maxHeartbeats 4000000 in
set_option maxRecDepth 100000 in
theorem k_L_setContractHour (l : Launch) (G : sw_E) (h : Nat) (a1 : Int32) (o : Nat) (ov : Nat → Int64) (fs : List Value) (wc : va_W) {S : Type} {post : Int32 → S → Prop} {wf : S → va_W} {r9 : Room} (M : sw_M l G yX9_setContractHour wsX9_setContractHour r9 [.ref h, .int a1] ((h, .inr (9, fs)) :: wc) (sw_QI G post wf) 0 0) (hc9 : r9.cells = 0) (hs9 : r9.slots = 0) (hf9 : r9.frames ≤ 9) (hl9 : r9.locals ≤ 300) : sy_M l G yL_setContractHour wsL_setContractHour ({ frames := 10, cells := 0, slots := 0, locals := 340 } : Room) [.ref h, .int a1, .ref o] ((o, .inl (G.2.1.2, 1, .inr (.inl ov))) :: (h, .inr (9, fs)) :: wc) (sw_QI G (S := Int32 × S) (fun (r : Int32) (u : Int32 × S) => r = 0 ∧ post u.1 u.2) (fun u => (o, .inl (G.2.1.2, 1, .inr (.inl (vp_updL ov 0 u.1.toInt64)))) :: wf u.2)) 0 0 := by
  refine sy_start (cc := cL_setContractHour) (maxL := 4) (ret := some .int) (hh := [(0, 9, 12, 15)]) (lv := [(0, .ref h), (1, .int a1), (2, .ref o)]) (own := RL) (by decide +kernel) rfl rfl rfl (Nat.le_of_ble_eq_true rfl) (fun C F T => ?_)
  refine sw_aload_n (pc := 0) F dL_setContractHour_0 rfl 2 rfl ?_
  refine sw_iconst (pc := 1) (v := 0) F dL_setContractHour_1 rfl ?_
  refine sw_aload_n (pc := 2) F dL_setContractHour_2 rfl 0 rfl ?_
  refine sw_iload_n (pc := 3) F dL_setContractHour_3 rfl 1 rfl ?_
  refine sw_calli (pc := 4) (wr := [(o, .inl (G.2.1.2, 1, .inr (.inl ov)))]) (k' := 0) (n' := 0) F (sw_runV (R := ({ frames := 10, cells := 0, slots := 0, locals := 340 } : Room)) (q0 := 0) (na := 1) (ci := 9) F T.2.1 T.2.2.1 M (sy_is ((h, .inr (9, fs)) :: wc)) (sy_is_map _ _) (sy_is_nd _) gL_setContractHour_X9_setContractHour rfl hc9 hs9 (by decide +kernel) ⟨Nat.succ_le_succ hf9, by show 8 + (3 + 11) + r9.locals ≤ 340; omega⟩ rfl rfl rfl rfl rfl (Nat.le_of_ble_eq_true rfl) dL_setContractHour_4 (Nat.le_of_ble_eq_true rfl) (Nat.le_of_ble_eq_true rfl)) (sy_is ((h, .inr (9, fs)) :: wc)) [0] (sy_is_map _ _) rfl (by decide) (sy_is_dis _) rfl rfl (fun r u hp => ?_)
  refine sw_i2l (pc := 7) F dL_setContractHour_7 rfl ?_
  refine sw_last (pc := 8) (ws' := (o, .inl (G.2.1.2, 1, .inr (.inl (vp_updL ov 0 r.toInt64)))) :: wf u) F 0 rfl (sw_in rfl) dL_setContractHour_8 rfl ?_
  refine sw_goto (pc := 9) (tgt := 15) F dL_setContractHour_9 (by decide) ?_
  refine sw_iconst (pc := 15) (v := 0) F dL_setContractHour_15 rfl ?_
  exact sy_iret (pc := 16) F T rfl rfl (r, u) ⟨rfl, hp⟩ rfl dL_setContractHour_16
set_option maxHeartbeats 4000000 in
set_option maxRecDepth 100000 in
theorem kt_L_setContractHour_1 (l : Launch) (G : sw_E) (h : Nat) (a1 : Int32) (o : Nat) (ov : Nat → Int64) (fs : List Value) (wc wq : va_W) (isC : List Nat) (hC : isC.map (fun i => (((o, .inl (G.2.1.2, 1, .inr (.inl ov))) :: (h, .inr (9, fs)) :: wc))[i]?) = wq.map some) (hnd : va_nd isC = true) {r9 : Room} (M : sx_M l G yX9_setContractHour wsX9_setContractHour r9 [.ref h, .int a1] wq (sx_QI G) "java/lang/IllegalArgumentException") (hc9 : r9.cells = 1) (hs9 : r9.slots = 6) (hf9 : r9.frames ≤ 9) (hl9 : r9.locals ≤ 300) : sy_M l G yL_setContractHour wsL_setContractHour ({ frames := 10, cells := 1, slots := 6, locals := 340 } : Room) [.ref h, .int a1, .ref o] ((o, .inl (G.2.1.2, 1, .inr (.inl ov))) :: (h, .inr (9, fs)) :: wc) (sw_QI G (S := Unit) (fun (r : Int32) (u : Unit) => r = 1) (fun _ => ((o, .inl (G.2.1.2, 1, .inr (.inl ov))) :: (h, .inr (9, fs)) :: wc))) 1 6 := by
  refine sy_start (cc := cL_setContractHour) (maxL := 4) (ret := some .int) (hh := [(0, 9, 12, 15)]) (lv := [(0, .ref h), (1, .int a1), (2, .ref o)]) (own := RL) (by decide +kernel) rfl rfl rfl (Nat.le_of_ble_eq_true rfl) (fun C F T => ?_)
  refine sw_aload_n (pc := 0) F dL_setContractHour_0 rfl 2 rfl ?_
  refine sw_iconst (pc := 1) (v := 0) F dL_setContractHour_1 rfl ?_
  refine sw_aload_n (pc := 2) F dL_setContractHour_2 rfl 0 rfl ?_
  refine sw_iload_n (pc := 3) F dL_setContractHour_3 rfl 1 rfl ?_
  refine sy_calli (pc := 4) (x := { startPc := 0, endPc := 9, handlerPc := 12, catchType := 15 }) F T (sx_runV (R := ({ frames := 10, cells := 1, slots := 6, locals := 340 } : Room)) (q0 := 1) (na := 1) (ci := 9) F T.2.2.2.2.2.1.1 T.2.1 T.2.2.1 M isC hC hnd gL_setContractHour_X9_setContractHour rfl hc9 hs9 (by decide +kernel) ⟨Nat.succ_le_succ hf9, by show 8 + (3 + 11) + r9.locals ≤ 340; omega⟩ rfl rfl rfl rfl rfl (Nat.le_of_ble_eq_true rfl) dL_setContractHour_4 (Nat.le_of_ble_eq_true rfl) (Nat.le_of_ble_eq_true rfl)) isC hC [] [] rfl (fun z hz => nomatch hz) (by decide) (by decide) (List.mem_of_getElem? (i := 1) rfl) (List.mem_append_right _ (List.mem_append_left _ (by decide +kernel))) (fun q => ?_)
  refine sw_astore_n (pc := 12) (lv' := [(3, .ref q), (0, .ref h), (1, .int a1), (2, .ref o)]) F T.1 dL_setContractHour_12 rfl (by decide) rfl ?_
  refine sw_iconst (pc := 13) (v := 1) F dL_setContractHour_13 rfl ?_
  exact sy_iret (pc := 14) F T rfl rfl () rfl rfl dL_setContractHour_14
set_option maxHeartbeats 4000000 in
set_option maxRecDepth 100000 in
theorem k_L_setRaw (l : Launch) (G : sw_E) (h : Nat) (a1 : Int32) (a2 : Int32) (o : Nat) (ov : Nat → Int64) (fs : List Value) (wc : va_W) {S : Type} {post : Int32 → S → Prop} {wf : S → va_W} {r9 : Room} (M : sw_M l G yX9_setRaw wsX9_setRaw r9 [.ref h, .int a1, .int a2] ((h, .inr (9, fs)) :: wc) (sw_QI G post wf) 0 0) (hc9 : r9.cells = 0) (hs9 : r9.slots = 0) (hf9 : r9.frames ≤ 9) (hl9 : r9.locals ≤ 300) : sy_M l G yL_setRaw wsL_setRaw ({ frames := 10, cells := 0, slots := 0, locals := 340 } : Room) [.ref h, .int a1, .int a2, .ref o] ((o, .inl (G.2.1.2, 1, .inr (.inl ov))) :: (h, .inr (9, fs)) :: wc) (sw_QI G (S := Int32 × S) (fun (r : Int32) (u : Int32 × S) => r = 0 ∧ post u.1 u.2) (fun u => (o, .inl (G.2.1.2, 1, .inr (.inl (vp_updL ov 0 u.1.toInt64)))) :: wf u.2)) 0 0 := by
  refine sy_start (cc := cL_setRaw) (maxL := 5) (ret := some .int) (hh := [(0, 10, 13, 13), (0, 10, 17, 15)]) (lv := [(0, .ref h), (1, .int a1), (2, .int a2), (3, .ref o)]) (own := RL) (by decide +kernel) rfl rfl rfl (Nat.le_of_ble_eq_true rfl) (fun C F T => ?_)
  refine sw_aload_n (pc := 0) F dL_setRaw_0 rfl 3 rfl ?_
  refine sw_iconst (pc := 1) (v := 0) F dL_setRaw_1 rfl ?_
  refine sw_aload_n (pc := 2) F dL_setRaw_2 rfl 0 rfl ?_
  refine sw_iload_n (pc := 3) F dL_setRaw_3 rfl 1 rfl ?_
  refine sw_iload_n (pc := 4) F dL_setRaw_4 rfl 2 rfl ?_
  refine sw_calli (pc := 5) (wr := [(o, .inl (G.2.1.2, 1, .inr (.inl ov)))]) (k' := 0) (n' := 0) F (sw_runV (R := ({ frames := 10, cells := 0, slots := 0, locals := 340 } : Room)) (q0 := 0) (na := 2) (ci := 9) F T.2.1 T.2.2.1 M (sy_is ((h, .inr (9, fs)) :: wc)) (sy_is_map _ _) (sy_is_nd _) gL_setRaw_X9_setRaw rfl hc9 hs9 (by decide +kernel) ⟨Nat.succ_le_succ hf9, by show 8 + (4 + 11) + r9.locals ≤ 340; omega⟩ rfl rfl rfl rfl rfl (Nat.le_of_ble_eq_true rfl) dL_setRaw_5 (Nat.le_of_ble_eq_true rfl) (Nat.le_of_ble_eq_true rfl)) (sy_is ((h, .inr (9, fs)) :: wc)) [0] (sy_is_map _ _) rfl (by decide) (sy_is_dis _) rfl rfl (fun r u hp => ?_)
  refine sw_i2l (pc := 8) F dL_setRaw_8 rfl ?_
  refine sw_last (pc := 9) (ws' := (o, .inl (G.2.1.2, 1, .inr (.inl (vp_updL ov 0 r.toInt64)))) :: wf u) F 0 rfl (sw_in rfl) dL_setRaw_9 rfl ?_
  refine sw_goto (pc := 10) (tgt := 21) F dL_setRaw_10 (by decide) ?_
  refine sw_iconst (pc := 21) (v := 0) F dL_setRaw_21 rfl ?_
  exact sy_iret (pc := 22) F T rfl rfl (r, u) ⟨rfl, hp⟩ rfl dL_setRaw_22
set_option maxHeartbeats 4000000 in
set_option maxRecDepth 100000 in
theorem kt_L_setRaw_1 (l : Launch) (G : sw_E) (h : Nat) (a1 : Int32) (a2 : Int32) (o : Nat) (ov : Nat → Int64) (fs : List Value) (wc wq : va_W) (isC : List Nat) (hC : isC.map (fun i => (((o, .inl (G.2.1.2, 1, .inr (.inl ov))) :: (h, .inr (9, fs)) :: wc))[i]?) = wq.map some) (hnd : va_nd isC = true) {r9 : Room} (M : sx_M l G yX9_setRaw wsX9_setRaw r9 [.ref h, .int a1, .int a2] wq (sx_QI G) "java/lang/IndexOutOfBoundsException") (hc9 : r9.cells = 1) (hs9 : r9.slots = 6) (hf9 : r9.frames ≤ 9) (hl9 : r9.locals ≤ 300) : sy_M l G yL_setRaw wsL_setRaw ({ frames := 10, cells := 1, slots := 6, locals := 340 } : Room) [.ref h, .int a1, .int a2, .ref o] ((o, .inl (G.2.1.2, 1, .inr (.inl ov))) :: (h, .inr (9, fs)) :: wc) (sw_QI G (S := Unit) (fun (r : Int32) (u : Unit) => r = 1) (fun _ => ((o, .inl (G.2.1.2, 1, .inr (.inl ov))) :: (h, .inr (9, fs)) :: wc))) 1 6 := by
  refine sy_start (cc := cL_setRaw) (maxL := 5) (ret := some .int) (hh := [(0, 10, 13, 13), (0, 10, 17, 15)]) (lv := [(0, .ref h), (1, .int a1), (2, .int a2), (3, .ref o)]) (own := RL) (by decide +kernel) rfl rfl rfl (Nat.le_of_ble_eq_true rfl) (fun C F T => ?_)
  refine sw_aload_n (pc := 0) F dL_setRaw_0 rfl 3 rfl ?_
  refine sw_iconst (pc := 1) (v := 0) F dL_setRaw_1 rfl ?_
  refine sw_aload_n (pc := 2) F dL_setRaw_2 rfl 0 rfl ?_
  refine sw_iload_n (pc := 3) F dL_setRaw_3 rfl 1 rfl ?_
  refine sw_iload_n (pc := 4) F dL_setRaw_4 rfl 2 rfl ?_
  refine sy_calli (pc := 5) (x := { startPc := 0, endPc := 10, handlerPc := 13, catchType := 13 }) F T (sx_runV (R := ({ frames := 10, cells := 1, slots := 6, locals := 340 } : Room)) (q0 := 1) (na := 2) (ci := 9) F T.2.2.2.2.2.1.1 T.2.1 T.2.2.1 M isC hC hnd gL_setRaw_X9_setRaw rfl hc9 hs9 (by decide +kernel) ⟨Nat.succ_le_succ hf9, by show 8 + (4 + 11) + r9.locals ≤ 340; omega⟩ rfl rfl rfl rfl rfl (Nat.le_of_ble_eq_true rfl) dL_setRaw_5 (Nat.le_of_ble_eq_true rfl) (Nat.le_of_ble_eq_true rfl)) isC hC [] [{ startPc := 0, endPc := 10, handlerPc := 17, catchType := 15 }] rfl (fun z hz => nomatch hz) (by decide) (by decide) (List.mem_of_getElem? (i := 1) rfl) (List.mem_append_left _ (by decide +kernel)) (fun q => ?_)
  refine sw_astore (pc := 13) (lv' := [(4, .ref q), (0, .ref h), (1, .int a1), (2, .int a2), (3, .ref o)]) F T.1 dL_setRaw_13 (by decide) rfl ?_
  refine sw_iconst (pc := 15) (v := 1) F dL_setRaw_15 rfl ?_
  exact sy_iret (pc := 16) F T rfl rfl () rfl rfl dL_setRaw_16
set_option maxHeartbeats 4000000 in
set_option maxRecDepth 100000 in
theorem kt_L_setRaw_2 (l : Launch) (G : sw_E) (h : Nat) (a1 : Int32) (a2 : Int32) (o : Nat) (ov : Nat → Int64) (fs : List Value) (wc wq : va_W) (isC : List Nat) (hC : isC.map (fun i => (((o, .inl (G.2.1.2, 1, .inr (.inl ov))) :: (h, .inr (9, fs)) :: wc))[i]?) = wq.map some) (hnd : va_nd isC = true) {r9 : Room} (M : sx_M l G yX9_setRaw wsX9_setRaw r9 [.ref h, .int a1, .int a2] wq (sx_QI G) "java/lang/IllegalArgumentException") (hc9 : r9.cells = 1) (hs9 : r9.slots = 6) (hf9 : r9.frames ≤ 9) (hl9 : r9.locals ≤ 300) : sy_M l G yL_setRaw wsL_setRaw ({ frames := 10, cells := 1, slots := 6, locals := 340 } : Room) [.ref h, .int a1, .int a2, .ref o] ((o, .inl (G.2.1.2, 1, .inr (.inl ov))) :: (h, .inr (9, fs)) :: wc) (sw_QI G (S := Unit) (fun (r : Int32) (u : Unit) => r = 2) (fun _ => ((o, .inl (G.2.1.2, 1, .inr (.inl ov))) :: (h, .inr (9, fs)) :: wc))) 1 6 := by
  refine sy_start (cc := cL_setRaw) (maxL := 5) (ret := some .int) (hh := [(0, 10, 13, 13), (0, 10, 17, 15)]) (lv := [(0, .ref h), (1, .int a1), (2, .int a2), (3, .ref o)]) (own := RL) (by decide +kernel) rfl rfl rfl (Nat.le_of_ble_eq_true rfl) (fun C F T => ?_)
  refine sw_aload_n (pc := 0) F dL_setRaw_0 rfl 3 rfl ?_
  refine sw_iconst (pc := 1) (v := 0) F dL_setRaw_1 rfl ?_
  refine sw_aload_n (pc := 2) F dL_setRaw_2 rfl 0 rfl ?_
  refine sw_iload_n (pc := 3) F dL_setRaw_3 rfl 1 rfl ?_
  refine sw_iload_n (pc := 4) F dL_setRaw_4 rfl 2 rfl ?_
  refine sy_calli (pc := 5) (x := { startPc := 0, endPc := 10, handlerPc := 17, catchType := 15 }) F T (sx_runV (R := ({ frames := 10, cells := 1, slots := 6, locals := 340 } : Room)) (q0 := 1) (na := 2) (ci := 9) F T.2.2.2.2.2.1.1 T.2.1 T.2.2.1 M isC hC hnd gL_setRaw_X9_setRaw rfl hc9 hs9 (by decide +kernel) ⟨Nat.succ_le_succ hf9, by show 8 + (4 + 11) + r9.locals ≤ 340; omega⟩ rfl rfl rfl rfl rfl (Nat.le_of_ble_eq_true rfl) dL_setRaw_5 (Nat.le_of_ble_eq_true rfl) (Nat.le_of_ble_eq_true rfl)) isC hC [{ startPc := 0, endPc := 10, handlerPc := 13, catchType := 13 }] [] rfl (fun z hz => by rw [List.mem_singleton] at hz; subst hz; exact ⟨by decide, "java/lang/IndexOutOfBoundsException", (List.mem_of_getElem? (i := 1) rfl), T.2.2.2.2.2.1.2.1⟩) (by decide) (by decide) (List.mem_of_getElem? (i := 2) rfl) (List.mem_append_right _ (List.mem_append_left _ (by decide +kernel))) (fun q => ?_)
  refine sw_astore (pc := 17) (lv' := [(4, .ref q), (0, .ref h), (1, .int a1), (2, .int a2), (3, .ref o)]) F T.1 dL_setRaw_17 (by decide) rfl ?_
  refine sw_iconst (pc := 19) (v := 2) F dL_setRaw_19 rfl ?_
  exact sy_iret (pc := 20) F T rfl rfl () rfl rfl dL_setRaw_20
set_option maxHeartbeats 4000000 in
set_option maxRecDepth 100000 in
theorem k_L_run (l : Launch) (G : sw_E) (h : Nat) (a1 : Int32) (o : Nat) (ov : Nat → Int64) (fs : List Value) (wc : va_W) {S : Type} {post : Int64 → S → Prop} {wf : S → va_W} {r9 : Room} (M : sw_M l G yX9_run wsX9_run r9 [.ref h, .int a1] ((h, .inr (9, fs)) :: wc) (sw_QL G post wf) 0 0) (hc9 : r9.cells = 0) (hs9 : r9.slots = 0) (hf9 : r9.frames ≤ 9) (hl9 : r9.locals ≤ 300) : sy_M l G yL_run wsL_run ({ frames := 10, cells := 0, slots := 0, locals := 340 } : Room) [.ref h, .int a1, .ref o] ((o, .inl (G.2.1.2, 1, .inr (.inl ov))) :: (h, .inr (9, fs)) :: wc) (sw_QI G (S := Int64 × S) (fun (r : Int32) (u : Int64 × S) => r = 0 ∧ post u.1 u.2) (fun u => (o, .inl (G.2.1.2, 1, .inr (.inl (vp_updL ov 0 u.1)))) :: wf u.2)) 0 0 := by
  refine sy_start (cc := cL_run) (maxL := 4) (ret := some .int) (hh := [(0, 8, 11, 15)]) (lv := [(0, .ref h), (1, .int a1), (2, .ref o)]) (own := RL) (by decide +kernel) rfl rfl rfl (Nat.le_of_ble_eq_true rfl) (fun C F T => ?_)
  refine sw_aload_n (pc := 0) F dL_run_0 rfl 2 rfl ?_
  refine sw_iconst (pc := 1) (v := 0) F dL_run_1 rfl ?_
  refine sw_aload_n (pc := 2) F dL_run_2 rfl 0 rfl ?_
  refine sw_iload_n (pc := 3) F dL_run_3 rfl 1 rfl ?_
  refine sw_calll (pc := 4) (wr := [(o, .inl (G.2.1.2, 1, .inr (.inl ov)))]) (k' := 0) (n' := 0) F (sw_runV (R := ({ frames := 10, cells := 0, slots := 0, locals := 340 } : Room)) (q0 := 0) (na := 1) (ci := 9) F T.2.1 T.2.2.1 M (sy_is ((h, .inr (9, fs)) :: wc)) (sy_is_map _ _) (sy_is_nd _) gL_run_X9_run rfl hc9 hs9 (by decide +kernel) ⟨Nat.succ_le_succ hf9, by show 8 + (5 + 11) + r9.locals ≤ 340; omega⟩ rfl rfl rfl rfl rfl (Nat.le_of_ble_eq_true rfl) dL_run_4 (Nat.le_of_ble_eq_true rfl) (Nat.le_of_ble_eq_true rfl)) (sy_is ((h, .inr (9, fs)) :: wc)) [0] (sy_is_map _ _) rfl (by decide) (sy_is_dis _) rfl rfl (fun r u hp => ?_)
  refine sw_last (pc := 7) (ws' := (o, .inl (G.2.1.2, 1, .inr (.inl (vp_updL ov 0 r)))) :: wf u) F 0 rfl (sw_in rfl) dL_run_7 rfl ?_
  refine sw_goto (pc := 8) (tgt := 14) F dL_run_8 (by decide) ?_
  refine sw_iconst (pc := 14) (v := 0) F dL_run_14 rfl ?_
  exact sy_iret (pc := 15) F T rfl rfl (r, u) ⟨rfl, hp⟩ rfl dL_run_15
set_option maxHeartbeats 4000000 in
set_option maxRecDepth 100000 in
theorem kt_L_run_1 (l : Launch) (G : sw_E) (h : Nat) (a1 : Int32) (o : Nat) (ov : Nat → Int64) (fs : List Value) (wc wq : va_W) (isC : List Nat) (hC : isC.map (fun i => (((o, .inl (G.2.1.2, 1, .inr (.inl ov))) :: (h, .inr (9, fs)) :: wc))[i]?) = wq.map some) (hnd : va_nd isC = true) {r9 : Room} (M : sx_M l G yX9_run wsX9_run r9 [.ref h, .int a1] wq (sx_QL G) "java/lang/IllegalArgumentException") (hc9 : r9.cells = 1) (hs9 : r9.slots = 6) (hf9 : r9.frames ≤ 9) (hl9 : r9.locals ≤ 300) : sy_M l G yL_run wsL_run ({ frames := 10, cells := 1, slots := 6, locals := 340 } : Room) [.ref h, .int a1, .ref o] ((o, .inl (G.2.1.2, 1, .inr (.inl ov))) :: (h, .inr (9, fs)) :: wc) (sw_QI G (S := Unit) (fun (r : Int32) (u : Unit) => r = 1) (fun _ => ((o, .inl (G.2.1.2, 1, .inr (.inl ov))) :: (h, .inr (9, fs)) :: wc))) 1 6 := by
  refine sy_start (cc := cL_run) (maxL := 4) (ret := some .int) (hh := [(0, 8, 11, 15)]) (lv := [(0, .ref h), (1, .int a1), (2, .ref o)]) (own := RL) (by decide +kernel) rfl rfl rfl (Nat.le_of_ble_eq_true rfl) (fun C F T => ?_)
  refine sw_aload_n (pc := 0) F dL_run_0 rfl 2 rfl ?_
  refine sw_iconst (pc := 1) (v := 0) F dL_run_1 rfl ?_
  refine sw_aload_n (pc := 2) F dL_run_2 rfl 0 rfl ?_
  refine sw_iload_n (pc := 3) F dL_run_3 rfl 1 rfl ?_
  refine sy_calll (pc := 4) (x := { startPc := 0, endPc := 8, handlerPc := 11, catchType := 15 }) F T (sx_runV (R := ({ frames := 10, cells := 1, slots := 6, locals := 340 } : Room)) (q0 := 1) (na := 1) (ci := 9) F T.2.2.2.2.2.1.1 T.2.1 T.2.2.1 M isC hC hnd gL_run_X9_run rfl hc9 hs9 (by decide +kernel) ⟨Nat.succ_le_succ hf9, by show 8 + (5 + 11) + r9.locals ≤ 340; omega⟩ rfl rfl rfl rfl rfl (Nat.le_of_ble_eq_true rfl) dL_run_4 (Nat.le_of_ble_eq_true rfl) (Nat.le_of_ble_eq_true rfl)) isC hC [] [] rfl (fun z hz => nomatch hz) (by decide) (by decide) (List.mem_of_getElem? (i := 1) rfl) (List.mem_append_right _ (List.mem_append_left _ (by decide +kernel))) (fun q => ?_)
  refine sw_astore_n (pc := 11) (lv' := [(3, .ref q), (0, .ref h), (1, .int a1), (2, .ref o)]) F T.1 dL_run_11 rfl (by decide) rfl ?_
  refine sw_iconst (pc := 12) (v := 1) F dL_run_12 rfl ?_
  exact sy_iret (pc := 13) F T rfl rfl () rfl rfl dL_run_13
set_option maxHeartbeats 4000000 in
set_option maxRecDepth 100000 in
theorem k_L_openBatch (l : Launch) (G : sw_E) (h : Nat) (a1 : Int32) (a2 : Int32) (o : Nat) (ov : Nat → Int64) (fs : List Value) (wc : va_W) {S : Type} {post : Int32 → S → Prop} {wf : S → va_W} {r9 : Room} (M : sw_M l G yX9_openBatch wsX9_openBatch r9 [.ref h, .int a1, .int a2] ((h, .inr (9, fs)) :: wc) (sw_QI G post wf) 0 0) (hc9 : r9.cells = 0) (hs9 : r9.slots = 0) (hf9 : r9.frames ≤ 9) (hl9 : r9.locals ≤ 300) : sy_M l G yL_openBatch wsL_openBatch ({ frames := 10, cells := 0, slots := 0, locals := 340 } : Room) [.ref h, .int a1, .int a2, .ref o] ((o, .inl (G.2.1.2, 1, .inr (.inl ov))) :: (h, .inr (9, fs)) :: wc) (sw_QI G (S := Int32 × S) (fun (r : Int32) (u : Int32 × S) => r = 0 ∧ post u.1 u.2) (fun u => (o, .inl (G.2.1.2, 1, .inr (.inl (vp_updL ov 0 u.1.toInt64)))) :: wf u.2)) 0 0 := by
  refine sy_start (cc := cL_openBatch) (maxL := 5) (ret := some .int) (hh := [(0, 10, 13, 15), (0, 10, 17, 49)]) (lv := [(0, .ref h), (1, .int a1), (2, .int a2), (3, .ref o)]) (own := RL) (by decide +kernel) rfl rfl rfl (Nat.le_of_ble_eq_true rfl) (fun C F T => ?_)
  refine sw_aload_n (pc := 0) F dL_openBatch_0 rfl 3 rfl ?_
  refine sw_iconst (pc := 1) (v := 0) F dL_openBatch_1 rfl ?_
  refine sw_aload_n (pc := 2) F dL_openBatch_2 rfl 0 rfl ?_
  refine sw_iload_n (pc := 3) F dL_openBatch_3 rfl 1 rfl ?_
  refine sw_iload_n (pc := 4) F dL_openBatch_4 rfl 2 rfl ?_
  refine sw_calli (pc := 5) (wr := [(o, .inl (G.2.1.2, 1, .inr (.inl ov)))]) (k' := 0) (n' := 0) F (sw_runV (R := ({ frames := 10, cells := 0, slots := 0, locals := 340 } : Room)) (q0 := 0) (na := 2) (ci := 9) F T.2.1 T.2.2.1 M (sy_is ((h, .inr (9, fs)) :: wc)) (sy_is_map _ _) (sy_is_nd _) gL_openBatch_X9_openBatch rfl hc9 hs9 (by decide +kernel) ⟨Nat.succ_le_succ hf9, by show 8 + (3 + 11) + r9.locals ≤ 340; omega⟩ rfl rfl rfl rfl rfl (Nat.le_of_ble_eq_true rfl) dL_openBatch_5 (Nat.le_of_ble_eq_true rfl) (Nat.le_of_ble_eq_true rfl)) (sy_is ((h, .inr (9, fs)) :: wc)) [0] (sy_is_map _ _) rfl (by decide) (sy_is_dis _) rfl rfl (fun r u hp => ?_)
  refine sw_i2l (pc := 8) F dL_openBatch_8 rfl ?_
  refine sw_last (pc := 9) (ws' := (o, .inl (G.2.1.2, 1, .inr (.inl (vp_updL ov 0 r.toInt64)))) :: wf u) F 0 rfl (sw_in rfl) dL_openBatch_9 rfl ?_
  refine sw_goto (pc := 10) (tgt := 21) F dL_openBatch_10 (by decide) ?_
  refine sw_iconst (pc := 21) (v := 0) F dL_openBatch_21 rfl ?_
  exact sy_iret (pc := 22) F T rfl rfl (r, u) ⟨rfl, hp⟩ rfl dL_openBatch_22
set_option maxHeartbeats 4000000 in
set_option maxRecDepth 100000 in
theorem kt_L_openBatch_1 (l : Launch) (G : sw_E) (h : Nat) (a1 : Int32) (a2 : Int32) (o : Nat) (ov : Nat → Int64) (fs : List Value) (wc wq : va_W) (isC : List Nat) (hC : isC.map (fun i => (((o, .inl (G.2.1.2, 1, .inr (.inl ov))) :: (h, .inr (9, fs)) :: wc))[i]?) = wq.map some) (hnd : va_nd isC = true) {r9 : Room} (M : sx_M l G yX9_openBatch wsX9_openBatch r9 [.ref h, .int a1, .int a2] wq (sx_QI G) "java/lang/IllegalArgumentException") (hc9 : r9.cells = 1) (hs9 : r9.slots = 6) (hf9 : r9.frames ≤ 9) (hl9 : r9.locals ≤ 300) : sy_M l G yL_openBatch wsL_openBatch ({ frames := 10, cells := 1, slots := 6, locals := 340 } : Room) [.ref h, .int a1, .int a2, .ref o] ((o, .inl (G.2.1.2, 1, .inr (.inl ov))) :: (h, .inr (9, fs)) :: wc) (sw_QI G (S := Unit) (fun (r : Int32) (u : Unit) => r = 1) (fun _ => ((o, .inl (G.2.1.2, 1, .inr (.inl ov))) :: (h, .inr (9, fs)) :: wc))) 1 6 := by
  refine sy_start (cc := cL_openBatch) (maxL := 5) (ret := some .int) (hh := [(0, 10, 13, 15), (0, 10, 17, 49)]) (lv := [(0, .ref h), (1, .int a1), (2, .int a2), (3, .ref o)]) (own := RL) (by decide +kernel) rfl rfl rfl (Nat.le_of_ble_eq_true rfl) (fun C F T => ?_)
  refine sw_aload_n (pc := 0) F dL_openBatch_0 rfl 3 rfl ?_
  refine sw_iconst (pc := 1) (v := 0) F dL_openBatch_1 rfl ?_
  refine sw_aload_n (pc := 2) F dL_openBatch_2 rfl 0 rfl ?_
  refine sw_iload_n (pc := 3) F dL_openBatch_3 rfl 1 rfl ?_
  refine sw_iload_n (pc := 4) F dL_openBatch_4 rfl 2 rfl ?_
  refine sy_calli (pc := 5) (x := { startPc := 0, endPc := 10, handlerPc := 13, catchType := 15 }) F T (sx_runV (R := ({ frames := 10, cells := 1, slots := 6, locals := 340 } : Room)) (q0 := 1) (na := 2) (ci := 9) F T.2.2.2.2.2.1.1 T.2.1 T.2.2.1 M isC hC hnd gL_openBatch_X9_openBatch rfl hc9 hs9 (by decide +kernel) ⟨Nat.succ_le_succ hf9, by show 8 + (3 + 11) + r9.locals ≤ 340; omega⟩ rfl rfl rfl rfl rfl (Nat.le_of_ble_eq_true rfl) dL_openBatch_5 (Nat.le_of_ble_eq_true rfl) (Nat.le_of_ble_eq_true rfl)) isC hC [] [{ startPc := 0, endPc := 10, handlerPc := 17, catchType := 49 }] rfl (fun z hz => nomatch hz) (by decide) (by decide) (List.mem_of_getElem? (i := 1) rfl) (List.mem_append_right _ (List.mem_append_left _ (by decide +kernel))) (fun q => ?_)
  refine sw_astore (pc := 13) (lv' := [(4, .ref q), (0, .ref h), (1, .int a1), (2, .int a2), (3, .ref o)]) F T.1 dL_openBatch_13 (by decide) rfl ?_
  refine sw_iconst (pc := 15) (v := 1) F dL_openBatch_15 rfl ?_
  exact sy_iret (pc := 16) F T rfl rfl () rfl rfl dL_openBatch_16
set_option maxHeartbeats 4000000 in
set_option maxRecDepth 100000 in
theorem kt_L_openBatch_2 (l : Launch) (G : sw_E) (h : Nat) (a1 : Int32) (a2 : Int32) (o : Nat) (ov : Nat → Int64) (fs : List Value) (wc wq : va_W) (isC : List Nat) (hC : isC.map (fun i => (((o, .inl (G.2.1.2, 1, .inr (.inl ov))) :: (h, .inr (9, fs)) :: wc))[i]?) = wq.map some) (hnd : va_nd isC = true) {r9 : Room} (M : sx_M l G yX9_openBatch wsX9_openBatch r9 [.ref h, .int a1, .int a2] wq (sx_QI G) "java/lang/IllegalStateException") (hc9 : r9.cells = 1) (hs9 : r9.slots = 6) (hf9 : r9.frames ≤ 9) (hl9 : r9.locals ≤ 300) : sy_M l G yL_openBatch wsL_openBatch ({ frames := 10, cells := 1, slots := 6, locals := 340 } : Room) [.ref h, .int a1, .int a2, .ref o] ((o, .inl (G.2.1.2, 1, .inr (.inl ov))) :: (h, .inr (9, fs)) :: wc) (sw_QI G (S := Unit) (fun (r : Int32) (u : Unit) => r = 2) (fun _ => ((o, .inl (G.2.1.2, 1, .inr (.inl ov))) :: (h, .inr (9, fs)) :: wc))) 1 6 := by
  refine sy_start (cc := cL_openBatch) (maxL := 5) (ret := some .int) (hh := [(0, 10, 13, 15), (0, 10, 17, 49)]) (lv := [(0, .ref h), (1, .int a1), (2, .int a2), (3, .ref o)]) (own := RL) (by decide +kernel) rfl rfl rfl (Nat.le_of_ble_eq_true rfl) (fun C F T => ?_)
  refine sw_aload_n (pc := 0) F dL_openBatch_0 rfl 3 rfl ?_
  refine sw_iconst (pc := 1) (v := 0) F dL_openBatch_1 rfl ?_
  refine sw_aload_n (pc := 2) F dL_openBatch_2 rfl 0 rfl ?_
  refine sw_iload_n (pc := 3) F dL_openBatch_3 rfl 1 rfl ?_
  refine sw_iload_n (pc := 4) F dL_openBatch_4 rfl 2 rfl ?_
  refine sy_calli (pc := 5) (x := { startPc := 0, endPc := 10, handlerPc := 17, catchType := 49 }) F T (sx_runV (R := ({ frames := 10, cells := 1, slots := 6, locals := 340 } : Room)) (q0 := 1) (na := 2) (ci := 9) F T.2.2.2.2.2.1.1 T.2.1 T.2.2.1 M isC hC hnd gL_openBatch_X9_openBatch rfl hc9 hs9 (by decide +kernel) ⟨Nat.succ_le_succ hf9, by show 8 + (3 + 11) + r9.locals ≤ 340; omega⟩ rfl rfl rfl rfl rfl (Nat.le_of_ble_eq_true rfl) dL_openBatch_5 (Nat.le_of_ble_eq_true rfl) (Nat.le_of_ble_eq_true rfl)) isC hC [{ startPc := 0, endPc := 10, handlerPc := 13, catchType := 15 }] [] rfl (fun z hz => by rw [List.mem_singleton] at hz; subst hz; exact ⟨by decide, "java/lang/IllegalArgumentException", (List.mem_of_getElem? (i := 1) rfl), T.2.2.2.2.2.1.2.2⟩) (by decide) (by decide) (List.mem_of_getElem? (i := 2) rfl) (List.mem_append_right _ (List.mem_append_right _ (by decide +kernel))) (fun q => ?_)
  refine sw_astore (pc := 17) (lv' := [(4, .ref q), (0, .ref h), (1, .int a1), (2, .int a2), (3, .ref o)]) F T.1 dL_openBatch_17 (by decide) rfl ?_
  refine sw_iconst (pc := 19) (v := 2) F dL_openBatch_19 rfl ?_
  exact sy_iret (pc := 20) F T rfl rfl () rfl rfl dL_openBatch_20
set_option maxHeartbeats 4000000 in
set_option maxRecDepth 100000 in
theorem k_L_closeBatch (l : Launch) (G : sw_E) (h : Nat)  (o : Nat) (ov : Nat → Int64) (fs : List Value) (wc : va_W) {S : Type} {post : Int64 → S → Prop} {wf : S → va_W} {r9 : Room} (M : sw_M l G yX9_closeBatch wsX9_closeBatch r9 [.ref h] ((h, .inr (9, fs)) :: wc) (sw_QL G post wf) 0 0) (hc9 : r9.cells = 0) (hs9 : r9.slots = 0) (hf9 : r9.frames ≤ 9) (hl9 : r9.locals ≤ 300) : sy_M l G yL_closeBatch wsL_closeBatch ({ frames := 10, cells := 0, slots := 0, locals := 340 } : Room) [.ref h, .ref o] ((o, .inl (G.2.1.2, 1, .inr (.inl ov))) :: (h, .inr (9, fs)) :: wc) (sw_QI G (S := Int64 × S) (fun (r : Int32) (u : Int64 × S) => r = 0 ∧ post u.1 u.2) (fun u => (o, .inl (G.2.1.2, 1, .inr (.inl (vp_updL ov 0 u.1)))) :: wf u.2)) 0 0 := by
  refine sy_start (cc := cL_closeBatch) (maxL := 3) (ret := some .int) (hh := [(0, 7, 10, 49)]) (lv := [(0, .ref h), (1, .ref o)]) (own := RL) (by decide +kernel) rfl rfl rfl (Nat.le_of_ble_eq_true rfl) (fun C F T => ?_)
  refine sw_aload_n (pc := 0) F dL_closeBatch_0 rfl 1 rfl ?_
  refine sw_iconst (pc := 1) (v := 0) F dL_closeBatch_1 rfl ?_
  refine sw_aload_n (pc := 2) F dL_closeBatch_2 rfl 0 rfl ?_
  refine sw_calll (pc := 3) (wr := [(o, .inl (G.2.1.2, 1, .inr (.inl ov)))]) (k' := 0) (n' := 0) F (sw_runV (R := ({ frames := 10, cells := 0, slots := 0, locals := 340 } : Room)) (q0 := 0) (na := 0) (ci := 9) F T.2.1 T.2.2.1 M (sy_is ((h, .inr (9, fs)) :: wc)) (sy_is_map _ _) (sy_is_nd _) gL_closeBatch_X9_closeBatch rfl hc9 hs9 (by decide +kernel) ⟨Nat.succ_le_succ hf9, by show 8 + (1 + 11) + r9.locals ≤ 340; omega⟩ rfl rfl rfl rfl rfl (Nat.le_of_ble_eq_true rfl) dL_closeBatch_3 (Nat.le_of_ble_eq_true rfl) (Nat.le_of_ble_eq_true rfl)) (sy_is ((h, .inr (9, fs)) :: wc)) [0] (sy_is_map _ _) rfl (by decide) (sy_is_dis _) rfl rfl (fun r u hp => ?_)
  refine sw_last (pc := 6) (ws' := (o, .inl (G.2.1.2, 1, .inr (.inl (vp_updL ov 0 r)))) :: wf u) F 0 rfl (sw_in rfl) dL_closeBatch_6 rfl ?_
  refine sw_goto (pc := 7) (tgt := 13) F dL_closeBatch_7 (by decide) ?_
  refine sw_iconst (pc := 13) (v := 0) F dL_closeBatch_13 rfl ?_
  exact sy_iret (pc := 14) F T rfl rfl (r, u) ⟨rfl, hp⟩ rfl dL_closeBatch_14
set_option maxHeartbeats 4000000 in
set_option maxRecDepth 100000 in
theorem kt_L_closeBatch_1 (l : Launch) (G : sw_E) (h : Nat)  (o : Nat) (ov : Nat → Int64) (fs : List Value) (wc wq : va_W) (isC : List Nat) (hC : isC.map (fun i => (((o, .inl (G.2.1.2, 1, .inr (.inl ov))) :: (h, .inr (9, fs)) :: wc))[i]?) = wq.map some) (hnd : va_nd isC = true) {r9 : Room} (M : sx_M l G yX9_closeBatch wsX9_closeBatch r9 [.ref h] wq (sx_QL G) "java/lang/IllegalStateException") (hc9 : r9.cells = 1) (hs9 : r9.slots = 6) (hf9 : r9.frames ≤ 9) (hl9 : r9.locals ≤ 300) : sy_M l G yL_closeBatch wsL_closeBatch ({ frames := 10, cells := 1, slots := 6, locals := 340 } : Room) [.ref h, .ref o] ((o, .inl (G.2.1.2, 1, .inr (.inl ov))) :: (h, .inr (9, fs)) :: wc) (sw_QI G (S := Unit) (fun (r : Int32) (u : Unit) => r = 1) (fun _ => ((o, .inl (G.2.1.2, 1, .inr (.inl ov))) :: (h, .inr (9, fs)) :: wc))) 1 6 := by
  refine sy_start (cc := cL_closeBatch) (maxL := 3) (ret := some .int) (hh := [(0, 7, 10, 49)]) (lv := [(0, .ref h), (1, .ref o)]) (own := RL) (by decide +kernel) rfl rfl rfl (Nat.le_of_ble_eq_true rfl) (fun C F T => ?_)
  refine sw_aload_n (pc := 0) F dL_closeBatch_0 rfl 1 rfl ?_
  refine sw_iconst (pc := 1) (v := 0) F dL_closeBatch_1 rfl ?_
  refine sw_aload_n (pc := 2) F dL_closeBatch_2 rfl 0 rfl ?_
  refine sy_calll (pc := 3) (x := { startPc := 0, endPc := 7, handlerPc := 10, catchType := 49 }) F T (sx_runV (R := ({ frames := 10, cells := 1, slots := 6, locals := 340 } : Room)) (q0 := 1) (na := 0) (ci := 9) F T.2.2.2.2.2.1.1 T.2.1 T.2.2.1 M isC hC hnd gL_closeBatch_X9_closeBatch rfl hc9 hs9 (by decide +kernel) ⟨Nat.succ_le_succ hf9, by show 8 + (1 + 11) + r9.locals ≤ 340; omega⟩ rfl rfl rfl rfl rfl (Nat.le_of_ble_eq_true rfl) dL_closeBatch_3 (Nat.le_of_ble_eq_true rfl) (Nat.le_of_ble_eq_true rfl)) isC hC [] [] rfl (fun z hz => nomatch hz) (by decide) (by decide) (List.mem_of_getElem? (i := 1) rfl) (List.mem_append_right _ (List.mem_append_right _ (by decide +kernel))) (fun q => ?_)
  refine sw_astore_n (pc := 10) (lv' := [(2, .ref q), (0, .ref h), (1, .ref o)]) F T.1 dL_closeBatch_10 rfl (by decide) rfl ?_
  refine sw_iconst (pc := 11) (v := 1) F dL_closeBatch_11 rfl ?_
  exact sy_iret (pc := 12) F T rfl rfl () rfl rfl dL_closeBatch_12
set_option maxHeartbeats 4000000 in
set_option maxRecDepth 100000 in
theorem k_L_transmitter (l : Launch) (G : sw_E) (h : Nat) (a1 : Int32) (a2 : Int32) (o : Nat) (ov : Nat → Int64) (fs : List Value) (wc : va_W) {S : Type} {post : Int32 → S → Prop} {wf : S → va_W} {r9 : Room} (M : sw_M l G yX9_transmitter wsX9_transmitter r9 [.ref h, .int a1, .int a2] ((h, .inr (9, fs)) :: wc) (sw_QI G post wf) 0 0) (hc9 : r9.cells = 0) (hs9 : r9.slots = 0) (hf9 : r9.frames ≤ 9) (hl9 : r9.locals ≤ 300) : sy_M l G yL_transmitter wsL_transmitter ({ frames := 10, cells := 0, slots := 0, locals := 340 } : Room) [.ref h, .int a1, .int a2, .ref o] ((o, .inl (G.2.1.2, 1, .inr (.inl ov))) :: (h, .inr (9, fs)) :: wc) (sw_QI G (S := Int32 × S) (fun (r : Int32) (u : Int32 × S) => r = 0 ∧ post u.1 u.2) (fun u => (o, .inl (G.2.1.2, 1, .inr (.inl (vp_updL ov 0 u.1.toInt64)))) :: wf u.2)) 0 0 := by
  refine sy_start (cc := cL_transmitter) (maxL := 5) (ret := some .int) (hh := [(0, 10, 13, 13), (0, 10, 17, 15)]) (lv := [(0, .ref h), (1, .int a1), (2, .int a2), (3, .ref o)]) (own := RL) (by decide +kernel) rfl rfl rfl (Nat.le_of_ble_eq_true rfl) (fun C F T => ?_)
  refine sw_aload_n (pc := 0) F dL_transmitter_0 rfl 3 rfl ?_
  refine sw_iconst (pc := 1) (v := 0) F dL_transmitter_1 rfl ?_
  refine sw_aload_n (pc := 2) F dL_transmitter_2 rfl 0 rfl ?_
  refine sw_iload_n (pc := 3) F dL_transmitter_3 rfl 1 rfl ?_
  refine sw_iload_n (pc := 4) F dL_transmitter_4 rfl 2 rfl ?_
  refine sw_calli (pc := 5) (wr := [(o, .inl (G.2.1.2, 1, .inr (.inl ov)))]) (k' := 0) (n' := 0) F (sw_runV (R := ({ frames := 10, cells := 0, slots := 0, locals := 340 } : Room)) (q0 := 0) (na := 2) (ci := 9) F T.2.1 T.2.2.1 M (sy_is ((h, .inr (9, fs)) :: wc)) (sy_is_map _ _) (sy_is_nd _) gL_transmitter_X9_transmitter rfl hc9 hs9 (by decide +kernel) ⟨Nat.succ_le_succ hf9, by show 8 + (4 + 11) + r9.locals ≤ 340; omega⟩ rfl rfl rfl rfl rfl (Nat.le_of_ble_eq_true rfl) dL_transmitter_5 (Nat.le_of_ble_eq_true rfl) (Nat.le_of_ble_eq_true rfl)) (sy_is ((h, .inr (9, fs)) :: wc)) [0] (sy_is_map _ _) rfl (by decide) (sy_is_dis _) rfl rfl (fun r u hp => ?_)
  refine sw_i2l (pc := 8) F dL_transmitter_8 rfl ?_
  refine sw_last (pc := 9) (ws' := (o, .inl (G.2.1.2, 1, .inr (.inl (vp_updL ov 0 r.toInt64)))) :: wf u) F 0 rfl (sw_in rfl) dL_transmitter_9 rfl ?_
  refine sw_goto (pc := 10) (tgt := 21) F dL_transmitter_10 (by decide) ?_
  refine sw_iconst (pc := 21) (v := 0) F dL_transmitter_21 rfl ?_
  exact sy_iret (pc := 22) F T rfl rfl (r, u) ⟨rfl, hp⟩ rfl dL_transmitter_22
set_option maxHeartbeats 4000000 in
set_option maxRecDepth 100000 in
theorem kt_L_transmitter_1 (l : Launch) (G : sw_E) (h : Nat) (a1 : Int32) (a2 : Int32) (o : Nat) (ov : Nat → Int64) (fs : List Value) (wc wq : va_W) (isC : List Nat) (hC : isC.map (fun i => (((o, .inl (G.2.1.2, 1, .inr (.inl ov))) :: (h, .inr (9, fs)) :: wc))[i]?) = wq.map some) (hnd : va_nd isC = true) {r9 : Room} (M : sx_M l G yX9_transmitter wsX9_transmitter r9 [.ref h, .int a1, .int a2] wq (sx_QI G) "java/lang/IndexOutOfBoundsException") (hc9 : r9.cells = 1) (hs9 : r9.slots = 6) (hf9 : r9.frames ≤ 9) (hl9 : r9.locals ≤ 300) : sy_M l G yL_transmitter wsL_transmitter ({ frames := 10, cells := 1, slots := 6, locals := 340 } : Room) [.ref h, .int a1, .int a2, .ref o] ((o, .inl (G.2.1.2, 1, .inr (.inl ov))) :: (h, .inr (9, fs)) :: wc) (sw_QI G (S := Unit) (fun (r : Int32) (u : Unit) => r = 1) (fun _ => ((o, .inl (G.2.1.2, 1, .inr (.inl ov))) :: (h, .inr (9, fs)) :: wc))) 1 6 := by
  refine sy_start (cc := cL_transmitter) (maxL := 5) (ret := some .int) (hh := [(0, 10, 13, 13), (0, 10, 17, 15)]) (lv := [(0, .ref h), (1, .int a1), (2, .int a2), (3, .ref o)]) (own := RL) (by decide +kernel) rfl rfl rfl (Nat.le_of_ble_eq_true rfl) (fun C F T => ?_)
  refine sw_aload_n (pc := 0) F dL_transmitter_0 rfl 3 rfl ?_
  refine sw_iconst (pc := 1) (v := 0) F dL_transmitter_1 rfl ?_
  refine sw_aload_n (pc := 2) F dL_transmitter_2 rfl 0 rfl ?_
  refine sw_iload_n (pc := 3) F dL_transmitter_3 rfl 1 rfl ?_
  refine sw_iload_n (pc := 4) F dL_transmitter_4 rfl 2 rfl ?_
  refine sy_calli (pc := 5) (x := { startPc := 0, endPc := 10, handlerPc := 13, catchType := 13 }) F T (sx_runV (R := ({ frames := 10, cells := 1, slots := 6, locals := 340 } : Room)) (q0 := 1) (na := 2) (ci := 9) F T.2.2.2.2.2.1.1 T.2.1 T.2.2.1 M isC hC hnd gL_transmitter_X9_transmitter rfl hc9 hs9 (by decide +kernel) ⟨Nat.succ_le_succ hf9, by show 8 + (4 + 11) + r9.locals ≤ 340; omega⟩ rfl rfl rfl rfl rfl (Nat.le_of_ble_eq_true rfl) dL_transmitter_5 (Nat.le_of_ble_eq_true rfl) (Nat.le_of_ble_eq_true rfl)) isC hC [] [{ startPc := 0, endPc := 10, handlerPc := 17, catchType := 15 }] rfl (fun z hz => nomatch hz) (by decide) (by decide) (List.mem_of_getElem? (i := 1) rfl) (List.mem_append_left _ (by decide +kernel)) (fun q => ?_)
  refine sw_astore (pc := 13) (lv' := [(4, .ref q), (0, .ref h), (1, .int a1), (2, .int a2), (3, .ref o)]) F T.1 dL_transmitter_13 (by decide) rfl ?_
  refine sw_iconst (pc := 15) (v := 1) F dL_transmitter_15 rfl ?_
  exact sy_iret (pc := 16) F T rfl rfl () rfl rfl dL_transmitter_16
set_option maxHeartbeats 4000000 in
set_option maxRecDepth 100000 in
theorem kt_L_transmitter_2 (l : Launch) (G : sw_E) (h : Nat) (a1 : Int32) (a2 : Int32) (o : Nat) (ov : Nat → Int64) (fs : List Value) (wc wq : va_W) (isC : List Nat) (hC : isC.map (fun i => (((o, .inl (G.2.1.2, 1, .inr (.inl ov))) :: (h, .inr (9, fs)) :: wc))[i]?) = wq.map some) (hnd : va_nd isC = true) {r9 : Room} (M : sx_M l G yX9_transmitter wsX9_transmitter r9 [.ref h, .int a1, .int a2] wq (sx_QI G) "java/lang/IllegalArgumentException") (hc9 : r9.cells = 1) (hs9 : r9.slots = 6) (hf9 : r9.frames ≤ 9) (hl9 : r9.locals ≤ 300) : sy_M l G yL_transmitter wsL_transmitter ({ frames := 10, cells := 1, slots := 6, locals := 340 } : Room) [.ref h, .int a1, .int a2, .ref o] ((o, .inl (G.2.1.2, 1, .inr (.inl ov))) :: (h, .inr (9, fs)) :: wc) (sw_QI G (S := Unit) (fun (r : Int32) (u : Unit) => r = 2) (fun _ => ((o, .inl (G.2.1.2, 1, .inr (.inl ov))) :: (h, .inr (9, fs)) :: wc))) 1 6 := by
  refine sy_start (cc := cL_transmitter) (maxL := 5) (ret := some .int) (hh := [(0, 10, 13, 13), (0, 10, 17, 15)]) (lv := [(0, .ref h), (1, .int a1), (2, .int a2), (3, .ref o)]) (own := RL) (by decide +kernel) rfl rfl rfl (Nat.le_of_ble_eq_true rfl) (fun C F T => ?_)
  refine sw_aload_n (pc := 0) F dL_transmitter_0 rfl 3 rfl ?_
  refine sw_iconst (pc := 1) (v := 0) F dL_transmitter_1 rfl ?_
  refine sw_aload_n (pc := 2) F dL_transmitter_2 rfl 0 rfl ?_
  refine sw_iload_n (pc := 3) F dL_transmitter_3 rfl 1 rfl ?_
  refine sw_iload_n (pc := 4) F dL_transmitter_4 rfl 2 rfl ?_
  refine sy_calli (pc := 5) (x := { startPc := 0, endPc := 10, handlerPc := 17, catchType := 15 }) F T (sx_runV (R := ({ frames := 10, cells := 1, slots := 6, locals := 340 } : Room)) (q0 := 1) (na := 2) (ci := 9) F T.2.2.2.2.2.1.1 T.2.1 T.2.2.1 M isC hC hnd gL_transmitter_X9_transmitter rfl hc9 hs9 (by decide +kernel) ⟨Nat.succ_le_succ hf9, by show 8 + (4 + 11) + r9.locals ≤ 340; omega⟩ rfl rfl rfl rfl rfl (Nat.le_of_ble_eq_true rfl) dL_transmitter_5 (Nat.le_of_ble_eq_true rfl) (Nat.le_of_ble_eq_true rfl)) isC hC [{ startPc := 0, endPc := 10, handlerPc := 13, catchType := 13 }] [] rfl (fun z hz => by rw [List.mem_singleton] at hz; subst hz; exact ⟨by decide, "java/lang/IndexOutOfBoundsException", (List.mem_of_getElem? (i := 1) rfl), T.2.2.2.2.2.1.2.1⟩) (by decide) (by decide) (List.mem_of_getElem? (i := 2) rfl) (List.mem_append_right _ (List.mem_append_left _ (by decide +kernel))) (fun q => ?_)
  refine sw_astore (pc := 17) (lv' := [(4, .ref q), (0, .ref h), (1, .int a1), (2, .int a2), (3, .ref o)]) F T.1 dL_transmitter_17 (by decide) rfl ?_
  refine sw_iconst (pc := 19) (v := 2) F dL_transmitter_19 rfl ?_
  exact sy_iret (pc := 20) F T rfl rfl () rfl rfl dL_transmitter_20
set_option maxHeartbeats 4000000 in
set_option maxRecDepth 100000 in
theorem k_L_total (l : Launch) (G : sw_E) (h : Nat) (a1 : Int32) (o : Nat) (ov : Nat → Int64) (fs : List Value) (wc : va_W) {S : Type} {post : Int64 → S → Prop} {wf : S → va_W} {r9 : Room} (M : sw_M l G yX9_total wsX9_total r9 [.ref h, .int a1] ((h, .inr (9, fs)) :: wc) (sw_QL G post wf) 0 0) (hc9 : r9.cells = 0) (hs9 : r9.slots = 0) (hf9 : r9.frames ≤ 9) (hl9 : r9.locals ≤ 300) : sy_M l G yL_total wsL_total ({ frames := 10, cells := 0, slots := 0, locals := 340 } : Room) [.ref h, .int a1, .ref o] ((o, .inl (G.2.1.2, 1, .inr (.inl ov))) :: (h, .inr (9, fs)) :: wc) (sw_QI G (S := Int64 × S) (fun (r : Int32) (u : Int64 × S) => r = 0 ∧ post u.1 u.2) (fun u => (o, .inl (G.2.1.2, 1, .inr (.inl (vp_updL ov 0 u.1)))) :: wf u.2)) 0 0 := by
  refine sy_start (cc := cL_total) (maxL := 4) (ret := some .int) (hh := [(0, 8, 11, 15)]) (lv := [(0, .ref h), (1, .int a1), (2, .ref o)]) (own := RL) (by decide +kernel) rfl rfl rfl (Nat.le_of_ble_eq_true rfl) (fun C F T => ?_)
  refine sw_aload_n (pc := 0) F dL_total_0 rfl 2 rfl ?_
  refine sw_iconst (pc := 1) (v := 0) F dL_total_1 rfl ?_
  refine sw_aload_n (pc := 2) F dL_total_2 rfl 0 rfl ?_
  refine sw_iload_n (pc := 3) F dL_total_3 rfl 1 rfl ?_
  refine sw_calll (pc := 4) (wr := [(o, .inl (G.2.1.2, 1, .inr (.inl ov)))]) (k' := 0) (n' := 0) F (sw_runV (R := ({ frames := 10, cells := 0, slots := 0, locals := 340 } : Room)) (q0 := 0) (na := 1) (ci := 9) F T.2.1 T.2.2.1 M (sy_is ((h, .inr (9, fs)) :: wc)) (sy_is_map _ _) (sy_is_nd _) gL_total_X9_total rfl hc9 hs9 (by decide +kernel) ⟨Nat.succ_le_succ hf9, by show 8 + (2 + 11) + r9.locals ≤ 340; omega⟩ rfl rfl rfl rfl rfl (Nat.le_of_ble_eq_true rfl) dL_total_4 (Nat.le_of_ble_eq_true rfl) (Nat.le_of_ble_eq_true rfl)) (sy_is ((h, .inr (9, fs)) :: wc)) [0] (sy_is_map _ _) rfl (by decide) (sy_is_dis _) rfl rfl (fun r u hp => ?_)
  refine sw_last (pc := 7) (ws' := (o, .inl (G.2.1.2, 1, .inr (.inl (vp_updL ov 0 r)))) :: wf u) F 0 rfl (sw_in rfl) dL_total_7 rfl ?_
  refine sw_goto (pc := 8) (tgt := 14) F dL_total_8 (by decide) ?_
  refine sw_iconst (pc := 14) (v := 0) F dL_total_14 rfl ?_
  exact sy_iret (pc := 15) F T rfl rfl (r, u) ⟨rfl, hp⟩ rfl dL_total_15
set_option maxHeartbeats 4000000 in
set_option maxRecDepth 100000 in
theorem kt_L_total_1 (l : Launch) (G : sw_E) (h : Nat) (a1 : Int32) (o : Nat) (ov : Nat → Int64) (fs : List Value) (wc wq : va_W) (isC : List Nat) (hC : isC.map (fun i => (((o, .inl (G.2.1.2, 1, .inr (.inl ov))) :: (h, .inr (9, fs)) :: wc))[i]?) = wq.map some) (hnd : va_nd isC = true) {r9 : Room} (M : sx_M l G yX9_total wsX9_total r9 [.ref h, .int a1] wq (sx_QL G) "java/lang/IllegalArgumentException") (hc9 : r9.cells = 1) (hs9 : r9.slots = 6) (hf9 : r9.frames ≤ 9) (hl9 : r9.locals ≤ 300) : sy_M l G yL_total wsL_total ({ frames := 10, cells := 1, slots := 6, locals := 340 } : Room) [.ref h, .int a1, .ref o] ((o, .inl (G.2.1.2, 1, .inr (.inl ov))) :: (h, .inr (9, fs)) :: wc) (sw_QI G (S := Unit) (fun (r : Int32) (u : Unit) => r = 1) (fun _ => ((o, .inl (G.2.1.2, 1, .inr (.inl ov))) :: (h, .inr (9, fs)) :: wc))) 1 6 := by
  refine sy_start (cc := cL_total) (maxL := 4) (ret := some .int) (hh := [(0, 8, 11, 15)]) (lv := [(0, .ref h), (1, .int a1), (2, .ref o)]) (own := RL) (by decide +kernel) rfl rfl rfl (Nat.le_of_ble_eq_true rfl) (fun C F T => ?_)
  refine sw_aload_n (pc := 0) F dL_total_0 rfl 2 rfl ?_
  refine sw_iconst (pc := 1) (v := 0) F dL_total_1 rfl ?_
  refine sw_aload_n (pc := 2) F dL_total_2 rfl 0 rfl ?_
  refine sw_iload_n (pc := 3) F dL_total_3 rfl 1 rfl ?_
  refine sy_calll (pc := 4) (x := { startPc := 0, endPc := 8, handlerPc := 11, catchType := 15 }) F T (sx_runV (R := ({ frames := 10, cells := 1, slots := 6, locals := 340 } : Room)) (q0 := 1) (na := 1) (ci := 9) F T.2.2.2.2.2.1.1 T.2.1 T.2.2.1 M isC hC hnd gL_total_X9_total rfl hc9 hs9 (by decide +kernel) ⟨Nat.succ_le_succ hf9, by show 8 + (2 + 11) + r9.locals ≤ 340; omega⟩ rfl rfl rfl rfl rfl (Nat.le_of_ble_eq_true rfl) dL_total_4 (Nat.le_of_ble_eq_true rfl) (Nat.le_of_ble_eq_true rfl)) isC hC [] [] rfl (fun z hz => nomatch hz) (by decide) (by decide) (List.mem_of_getElem? (i := 1) rfl) (List.mem_append_right _ (List.mem_append_left _ (by decide +kernel))) (fun q => ?_)
  refine sw_astore_n (pc := 11) (lv' := [(3, .ref q), (0, .ref h), (1, .int a1), (2, .ref o)]) F T.1 dL_total_11 rfl (by decide) rfl ?_
  refine sw_iconst (pc := 12) (v := 1) F dL_total_12 rfl ?_
  exact sy_iret (pc := 13) F T rfl rfl () rfl rfl dL_total_13
set_option maxHeartbeats 4000000 in
set_option maxRecDepth 100000 in
theorem k_L_flowFor (l : Launch) (G : sw_E) (h : Nat) (a1 : Int32) (a2 : Int32) (a3 : Int32) (o : Nat) (ov : Nat → Int64) (fs : List Value) (wc : va_W) {S : Type} {post : Int64 → S → Prop} {wf : S → va_W} {r9 : Room} (M : sw_M l G yX9_flowFor wsX9_flowFor r9 [.ref h, .int a1, .int a2, .int a3] ((h, .inr (9, fs)) :: wc) (sw_QL G post wf) 0 0) (hc9 : r9.cells = 0) (hs9 : r9.slots = 0) (hf9 : r9.frames ≤ 9) (hl9 : r9.locals ≤ 300) : sy_M l G yL_flowFor wsL_flowFor ({ frames := 10, cells := 0, slots := 0, locals := 340 } : Room) [.ref h, .int a1, .int a2, .int a3, .ref o] ((o, .inl (G.2.1.2, 1, .inr (.inl ov))) :: (h, .inr (9, fs)) :: wc) (sw_QI G (S := Int64 × S) (fun (r : Int32) (u : Int64 × S) => r = 0 ∧ post u.1 u.2) (fun u => (o, .inl (G.2.1.2, 1, .inr (.inl (vp_updL ov 0 u.1)))) :: wf u.2)) 0 0 := by
  refine sy_start (cc := cL_flowFor) (maxL := 6) (ret := some .int) (hh := [(0, 11, 14, 15)]) (lv := [(0, .ref h), (1, .int a1), (2, .int a2), (3, .int a3), (4, .ref o)]) (own := RL) (by decide +kernel) rfl rfl rfl (Nat.le_of_ble_eq_true rfl) (fun C F T => ?_)
  refine sw_aload (pc := 0) F dL_flowFor_0 4 rfl ?_
  refine sw_iconst (pc := 2) (v := 0) F dL_flowFor_2 rfl ?_
  refine sw_aload_n (pc := 3) F dL_flowFor_3 rfl 0 rfl ?_
  refine sw_iload_n (pc := 4) F dL_flowFor_4 rfl 1 rfl ?_
  refine sw_iload_n (pc := 5) F dL_flowFor_5 rfl 2 rfl ?_
  refine sw_iload_n (pc := 6) F dL_flowFor_6 rfl 3 rfl ?_
  refine sw_calll (pc := 7) (wr := [(o, .inl (G.2.1.2, 1, .inr (.inl ov)))]) (k' := 0) (n' := 0) F (sw_runV (R := ({ frames := 10, cells := 0, slots := 0, locals := 340 } : Room)) (q0 := 0) (na := 3) (ci := 9) F T.2.1 T.2.2.1 M (sy_is ((h, .inr (9, fs)) :: wc)) (sy_is_map _ _) (sy_is_nd _) gL_flowFor_X9_flowFor rfl hc9 hs9 (by decide +kernel) ⟨Nat.succ_le_succ hf9, by show 8 + (4 + 11) + r9.locals ≤ 340; omega⟩ rfl rfl rfl rfl rfl (Nat.le_of_ble_eq_true rfl) dL_flowFor_7 (Nat.le_of_ble_eq_true rfl) (Nat.le_of_ble_eq_true rfl)) (sy_is ((h, .inr (9, fs)) :: wc)) [0] (sy_is_map _ _) rfl (by decide) (sy_is_dis _) rfl rfl (fun r u hp => ?_)
  refine sw_last (pc := 10) (ws' := (o, .inl (G.2.1.2, 1, .inr (.inl (vp_updL ov 0 r)))) :: wf u) F 0 rfl (sw_in rfl) dL_flowFor_10 rfl ?_
  refine sw_goto (pc := 11) (tgt := 18) F dL_flowFor_11 (by decide) ?_
  refine sw_iconst (pc := 18) (v := 0) F dL_flowFor_18 rfl ?_
  exact sy_iret (pc := 19) F T rfl rfl (r, u) ⟨rfl, hp⟩ rfl dL_flowFor_19
set_option maxHeartbeats 4000000 in
set_option maxRecDepth 100000 in
theorem kt_L_flowFor_1 (l : Launch) (G : sw_E) (h : Nat) (a1 : Int32) (a2 : Int32) (a3 : Int32) (o : Nat) (ov : Nat → Int64) (fs : List Value) (wc wq : va_W) (isC : List Nat) (hC : isC.map (fun i => (((o, .inl (G.2.1.2, 1, .inr (.inl ov))) :: (h, .inr (9, fs)) :: wc))[i]?) = wq.map some) (hnd : va_nd isC = true) {r9 : Room} (M : sx_M l G yX9_flowFor wsX9_flowFor r9 [.ref h, .int a1, .int a2, .int a3] wq (sx_QL G) "java/lang/IllegalArgumentException") (hc9 : r9.cells = 1) (hs9 : r9.slots = 6) (hf9 : r9.frames ≤ 9) (hl9 : r9.locals ≤ 300) : sy_M l G yL_flowFor wsL_flowFor ({ frames := 10, cells := 1, slots := 6, locals := 340 } : Room) [.ref h, .int a1, .int a2, .int a3, .ref o] ((o, .inl (G.2.1.2, 1, .inr (.inl ov))) :: (h, .inr (9, fs)) :: wc) (sw_QI G (S := Unit) (fun (r : Int32) (u : Unit) => r = 1) (fun _ => ((o, .inl (G.2.1.2, 1, .inr (.inl ov))) :: (h, .inr (9, fs)) :: wc))) 1 6 := by
  refine sy_start (cc := cL_flowFor) (maxL := 6) (ret := some .int) (hh := [(0, 11, 14, 15)]) (lv := [(0, .ref h), (1, .int a1), (2, .int a2), (3, .int a3), (4, .ref o)]) (own := RL) (by decide +kernel) rfl rfl rfl (Nat.le_of_ble_eq_true rfl) (fun C F T => ?_)
  refine sw_aload (pc := 0) F dL_flowFor_0 4 rfl ?_
  refine sw_iconst (pc := 2) (v := 0) F dL_flowFor_2 rfl ?_
  refine sw_aload_n (pc := 3) F dL_flowFor_3 rfl 0 rfl ?_
  refine sw_iload_n (pc := 4) F dL_flowFor_4 rfl 1 rfl ?_
  refine sw_iload_n (pc := 5) F dL_flowFor_5 rfl 2 rfl ?_
  refine sw_iload_n (pc := 6) F dL_flowFor_6 rfl 3 rfl ?_
  refine sy_calll (pc := 7) (x := { startPc := 0, endPc := 11, handlerPc := 14, catchType := 15 }) F T (sx_runV (R := ({ frames := 10, cells := 1, slots := 6, locals := 340 } : Room)) (q0 := 1) (na := 3) (ci := 9) F T.2.2.2.2.2.1.1 T.2.1 T.2.2.1 M isC hC hnd gL_flowFor_X9_flowFor rfl hc9 hs9 (by decide +kernel) ⟨Nat.succ_le_succ hf9, by show 8 + (4 + 11) + r9.locals ≤ 340; omega⟩ rfl rfl rfl rfl rfl (Nat.le_of_ble_eq_true rfl) dL_flowFor_7 (Nat.le_of_ble_eq_true rfl) (Nat.le_of_ble_eq_true rfl)) isC hC [] [] rfl (fun z hz => nomatch hz) (by decide) (by decide) (List.mem_of_getElem? (i := 1) rfl) (List.mem_append_right _ (List.mem_append_left _ (by decide +kernel))) (fun q => ?_)
  refine sw_astore (pc := 14) (lv' := [(5, .ref q), (0, .ref h), (1, .int a1), (2, .int a2), (3, .int a3), (4, .ref o)]) F T.1 dL_flowFor_14 (by decide) rfl ?_
  refine sw_iconst (pc := 16) (v := 1) F dL_flowFor_16 rfl ?_
  exact sy_iret (pc := 17) F T rfl rfl () rfl rfl dL_flowFor_17
set_option maxHeartbeats 4000000 in
set_option maxRecDepth 100000 in
theorem k_L_differentialFor (l : Launch) (G : sw_E) (h : Nat) (a1 : Int64) (o : Nat) (ov : Nat → Int64) (fs : List Value) (wc : va_W) {S : Type} {post : Int32 → S → Prop} {wf : S → va_W} {r9 : Room} (M : sw_M l G yX9_differentialFor wsX9_differentialFor r9 [.ref h, .long a1] ((h, .inr (9, fs)) :: wc) (sw_QI G post wf) 0 0) (hc9 : r9.cells = 0) (hs9 : r9.slots = 0) (hf9 : r9.frames ≤ 9) (hl9 : r9.locals ≤ 300) : sy_M l G yL_differentialFor wsL_differentialFor ({ frames := 10, cells := 0, slots := 0, locals := 340 } : Room) [.ref h, .long a1, .ref o] ((o, .inl (G.2.1.2, 1, .inr (.inl ov))) :: (h, .inr (9, fs)) :: wc) (sw_QI G (S := Int32 × S) (fun (r : Int32) (u : Int32 × S) => r = 0 ∧ post u.1 u.2) (fun u => (o, .inl (G.2.1.2, 1, .inr (.inl (vp_updL ov 0 u.1.toInt64)))) :: wf u.2)) 0 0 := by
  refine sy_start (cc := cL_differentialFor) (maxL := 5) (ret := some .int) (hh := [(0, 9, 12, 15)]) (lv := [(0, .ref h), (1, .long a1), (3, .ref o)]) (own := RL) (by decide +kernel) rfl rfl rfl (Nat.le_of_ble_eq_true rfl) (fun C F T => ?_)
  refine sw_aload_n (pc := 0) F dL_differentialFor_0 rfl 2 rfl ?_
  refine sw_iconst (pc := 1) (v := 0) F dL_differentialFor_1 rfl ?_
  refine sw_aload_n (pc := 2) F dL_differentialFor_2 rfl 0 rfl ?_
  refine sw_lload_n (pc := 3) F dL_differentialFor_3 rfl 1 rfl ?_
  refine sw_calli (pc := 4) (wr := [(o, .inl (G.2.1.2, 1, .inr (.inl ov)))]) (k' := 0) (n' := 0) F (sw_runV (R := ({ frames := 10, cells := 0, slots := 0, locals := 340 } : Room)) (q0 := 0) (na := 1) (ci := 9) F T.2.1 T.2.2.1 M (sy_is ((h, .inr (9, fs)) :: wc)) (sy_is_map _ _) (sy_is_nd _) gL_differentialFor_X9_differentialFor rfl hc9 hs9 (by decide +kernel) ⟨Nat.succ_le_succ hf9, by show 8 + (7 + 11) + r9.locals ≤ 340; omega⟩ rfl rfl rfl rfl rfl (Nat.le_of_ble_eq_true rfl) dL_differentialFor_4 (Nat.le_of_ble_eq_true rfl) (Nat.le_of_ble_eq_true rfl)) (sy_is ((h, .inr (9, fs)) :: wc)) [0] (sy_is_map _ _) rfl (by decide) (sy_is_dis _) rfl rfl (fun r u hp => ?_)
  refine sw_i2l (pc := 7) F dL_differentialFor_7 rfl ?_
  refine sw_last (pc := 8) (ws' := (o, .inl (G.2.1.2, 1, .inr (.inl (vp_updL ov 0 r.toInt64)))) :: wf u) F 0 rfl (sw_in rfl) dL_differentialFor_8 rfl ?_
  refine sw_goto (pc := 9) (tgt := 16) F dL_differentialFor_9 (by decide) ?_
  refine sw_iconst (pc := 16) (v := 0) F dL_differentialFor_16 rfl ?_
  exact sy_iret (pc := 17) F T rfl rfl (r, u) ⟨rfl, hp⟩ rfl dL_differentialFor_17
set_option maxHeartbeats 4000000 in
set_option maxRecDepth 100000 in
theorem kt_L_differentialFor_1 (l : Launch) (G : sw_E) (h : Nat) (a1 : Int64) (o : Nat) (ov : Nat → Int64) (fs : List Value) (wc wq : va_W) (isC : List Nat) (hC : isC.map (fun i => (((o, .inl (G.2.1.2, 1, .inr (.inl ov))) :: (h, .inr (9, fs)) :: wc))[i]?) = wq.map some) (hnd : va_nd isC = true) {r9 : Room} (M : sx_M l G yX9_differentialFor wsX9_differentialFor r9 [.ref h, .long a1] wq (sx_QI G) "java/lang/IllegalArgumentException") (hc9 : r9.cells = 1) (hs9 : r9.slots = 6) (hf9 : r9.frames ≤ 9) (hl9 : r9.locals ≤ 300) : sy_M l G yL_differentialFor wsL_differentialFor ({ frames := 10, cells := 1, slots := 6, locals := 340 } : Room) [.ref h, .long a1, .ref o] ((o, .inl (G.2.1.2, 1, .inr (.inl ov))) :: (h, .inr (9, fs)) :: wc) (sw_QI G (S := Unit) (fun (r : Int32) (u : Unit) => r = 1) (fun _ => ((o, .inl (G.2.1.2, 1, .inr (.inl ov))) :: (h, .inr (9, fs)) :: wc))) 1 6 := by
  refine sy_start (cc := cL_differentialFor) (maxL := 5) (ret := some .int) (hh := [(0, 9, 12, 15)]) (lv := [(0, .ref h), (1, .long a1), (3, .ref o)]) (own := RL) (by decide +kernel) rfl rfl rfl (Nat.le_of_ble_eq_true rfl) (fun C F T => ?_)
  refine sw_aload_n (pc := 0) F dL_differentialFor_0 rfl 2 rfl ?_
  refine sw_iconst (pc := 1) (v := 0) F dL_differentialFor_1 rfl ?_
  refine sw_aload_n (pc := 2) F dL_differentialFor_2 rfl 0 rfl ?_
  refine sw_lload_n (pc := 3) F dL_differentialFor_3 rfl 1 rfl ?_
  refine sy_calli (pc := 4) (x := { startPc := 0, endPc := 9, handlerPc := 12, catchType := 15 }) F T (sx_runV (R := ({ frames := 10, cells := 1, slots := 6, locals := 340 } : Room)) (q0 := 1) (na := 1) (ci := 9) F T.2.2.2.2.2.1.1 T.2.1 T.2.2.1 M isC hC hnd gL_differentialFor_X9_differentialFor rfl hc9 hs9 (by decide +kernel) ⟨Nat.succ_le_succ hf9, by show 8 + (7 + 11) + r9.locals ≤ 340; omega⟩ rfl rfl rfl rfl rfl (Nat.le_of_ble_eq_true rfl) dL_differentialFor_4 (Nat.le_of_ble_eq_true rfl) (Nat.le_of_ble_eq_true rfl)) isC hC [] [] rfl (fun z hz => nomatch hz) (by decide) (by decide) (List.mem_of_getElem? (i := 1) rfl) (List.mem_append_right _ (List.mem_append_left _ (by decide +kernel))) (fun q => ?_)
  refine sw_astore (pc := 12) (lv' := [(4, .ref q), (0, .ref h), (1, .long a1), (3, .ref o)]) F T.1 dL_differentialFor_12 (by decide) rfl ?_
  refine sw_iconst (pc := 14) (v := 1) F dL_differentialFor_14 rfl ?_
  exact sy_iret (pc := 15) F T rfl rfl () rfl rfl dL_differentialFor_15
set_option maxHeartbeats 4000000 in
set_option maxRecDepth 100000 in
theorem k_L_hour (l : Launch) (G : sw_E) (h : Nat) (a1 : Int32) (a2 : Int32) (o : Nat) (ov : Nat → Int64) (fs : List Value) (wc : va_W) {S : Type} {post : Int64 → S → Prop} {wf : S → va_W} {r9 : Room} (M : sw_M l G yX9_hour wsX9_hour r9 [.ref h, .int a1, .int a2] ((h, .inr (9, fs)) :: wc) (sw_QL G post wf) 0 0) (hc9 : r9.cells = 0) (hs9 : r9.slots = 0) (hf9 : r9.frames ≤ 9) (hl9 : r9.locals ≤ 300) : sy_M l G yL_hour wsL_hour ({ frames := 10, cells := 0, slots := 0, locals := 340 } : Room) [.ref h, .int a1, .int a2, .ref o] ((o, .inl (G.2.1.2, 1, .inr (.inl ov))) :: (h, .inr (9, fs)) :: wc) (sw_QI G (S := Int64 × S) (fun (r : Int32) (u : Int64 × S) => r = 0 ∧ post u.1 u.2) (fun u => (o, .inl (G.2.1.2, 1, .inr (.inl (vp_updL ov 0 u.1)))) :: wf u.2)) 0 0 := by
  refine sy_start (cc := cL_hour) (maxL := 5) (ret := some .int) (hh := [(0, 9, 12, 13), (0, 9, 16, 15)]) (lv := [(0, .ref h), (1, .int a1), (2, .int a2), (3, .ref o)]) (own := RL) (by decide +kernel) rfl rfl rfl (Nat.le_of_ble_eq_true rfl) (fun C F T => ?_)
  refine sw_aload_n (pc := 0) F dL_hour_0 rfl 3 rfl ?_
  refine sw_iconst (pc := 1) (v := 0) F dL_hour_1 rfl ?_
  refine sw_aload_n (pc := 2) F dL_hour_2 rfl 0 rfl ?_
  refine sw_iload_n (pc := 3) F dL_hour_3 rfl 1 rfl ?_
  refine sw_iload_n (pc := 4) F dL_hour_4 rfl 2 rfl ?_
  refine sw_calll (pc := 5) (wr := [(o, .inl (G.2.1.2, 1, .inr (.inl ov)))]) (k' := 0) (n' := 0) F (sw_runV (R := ({ frames := 10, cells := 0, slots := 0, locals := 340 } : Room)) (q0 := 0) (na := 2) (ci := 9) F T.2.1 T.2.2.1 M (sy_is ((h, .inr (9, fs)) :: wc)) (sy_is_map _ _) (sy_is_nd _) gL_hour_X9_hour rfl hc9 hs9 (by decide +kernel) ⟨Nat.succ_le_succ hf9, by show 8 + (3 + 11) + r9.locals ≤ 340; omega⟩ rfl rfl rfl rfl rfl (Nat.le_of_ble_eq_true rfl) dL_hour_5 (Nat.le_of_ble_eq_true rfl) (Nat.le_of_ble_eq_true rfl)) (sy_is ((h, .inr (9, fs)) :: wc)) [0] (sy_is_map _ _) rfl (by decide) (sy_is_dis _) rfl rfl (fun r u hp => ?_)
  refine sw_last (pc := 8) (ws' := (o, .inl (G.2.1.2, 1, .inr (.inl (vp_updL ov 0 r)))) :: wf u) F 0 rfl (sw_in rfl) dL_hour_8 rfl ?_
  refine sw_goto (pc := 9) (tgt := 20) F dL_hour_9 (by decide) ?_
  refine sw_iconst (pc := 20) (v := 0) F dL_hour_20 rfl ?_
  exact sy_iret (pc := 21) F T rfl rfl (r, u) ⟨rfl, hp⟩ rfl dL_hour_21
set_option maxHeartbeats 4000000 in
set_option maxRecDepth 100000 in
theorem kt_L_hour_1 (l : Launch) (G : sw_E) (h : Nat) (a1 : Int32) (a2 : Int32) (o : Nat) (ov : Nat → Int64) (fs : List Value) (wc wq : va_W) (isC : List Nat) (hC : isC.map (fun i => (((o, .inl (G.2.1.2, 1, .inr (.inl ov))) :: (h, .inr (9, fs)) :: wc))[i]?) = wq.map some) (hnd : va_nd isC = true) {r9 : Room} (M : sx_M l G yX9_hour wsX9_hour r9 [.ref h, .int a1, .int a2] wq (sx_QL G) "java/lang/IndexOutOfBoundsException") (hc9 : r9.cells = 1) (hs9 : r9.slots = 6) (hf9 : r9.frames ≤ 9) (hl9 : r9.locals ≤ 300) : sy_M l G yL_hour wsL_hour ({ frames := 10, cells := 1, slots := 6, locals := 340 } : Room) [.ref h, .int a1, .int a2, .ref o] ((o, .inl (G.2.1.2, 1, .inr (.inl ov))) :: (h, .inr (9, fs)) :: wc) (sw_QI G (S := Unit) (fun (r : Int32) (u : Unit) => r = 1) (fun _ => ((o, .inl (G.2.1.2, 1, .inr (.inl ov))) :: (h, .inr (9, fs)) :: wc))) 1 6 := by
  refine sy_start (cc := cL_hour) (maxL := 5) (ret := some .int) (hh := [(0, 9, 12, 13), (0, 9, 16, 15)]) (lv := [(0, .ref h), (1, .int a1), (2, .int a2), (3, .ref o)]) (own := RL) (by decide +kernel) rfl rfl rfl (Nat.le_of_ble_eq_true rfl) (fun C F T => ?_)
  refine sw_aload_n (pc := 0) F dL_hour_0 rfl 3 rfl ?_
  refine sw_iconst (pc := 1) (v := 0) F dL_hour_1 rfl ?_
  refine sw_aload_n (pc := 2) F dL_hour_2 rfl 0 rfl ?_
  refine sw_iload_n (pc := 3) F dL_hour_3 rfl 1 rfl ?_
  refine sw_iload_n (pc := 4) F dL_hour_4 rfl 2 rfl ?_
  refine sy_calll (pc := 5) (x := { startPc := 0, endPc := 9, handlerPc := 12, catchType := 13 }) F T (sx_runV (R := ({ frames := 10, cells := 1, slots := 6, locals := 340 } : Room)) (q0 := 1) (na := 2) (ci := 9) F T.2.2.2.2.2.1.1 T.2.1 T.2.2.1 M isC hC hnd gL_hour_X9_hour rfl hc9 hs9 (by decide +kernel) ⟨Nat.succ_le_succ hf9, by show 8 + (3 + 11) + r9.locals ≤ 340; omega⟩ rfl rfl rfl rfl rfl (Nat.le_of_ble_eq_true rfl) dL_hour_5 (Nat.le_of_ble_eq_true rfl) (Nat.le_of_ble_eq_true rfl)) isC hC [] [{ startPc := 0, endPc := 9, handlerPc := 16, catchType := 15 }] rfl (fun z hz => nomatch hz) (by decide) (by decide) (List.mem_of_getElem? (i := 1) rfl) (List.mem_append_left _ (by decide +kernel)) (fun q => ?_)
  refine sw_astore (pc := 12) (lv' := [(4, .ref q), (0, .ref h), (1, .int a1), (2, .int a2), (3, .ref o)]) F T.1 dL_hour_12 (by decide) rfl ?_
  refine sw_iconst (pc := 14) (v := 1) F dL_hour_14 rfl ?_
  exact sy_iret (pc := 15) F T rfl rfl () rfl rfl dL_hour_15
set_option maxHeartbeats 4000000 in
set_option maxRecDepth 100000 in
theorem kt_L_hour_2 (l : Launch) (G : sw_E) (h : Nat) (a1 : Int32) (a2 : Int32) (o : Nat) (ov : Nat → Int64) (fs : List Value) (wc wq : va_W) (isC : List Nat) (hC : isC.map (fun i => (((o, .inl (G.2.1.2, 1, .inr (.inl ov))) :: (h, .inr (9, fs)) :: wc))[i]?) = wq.map some) (hnd : va_nd isC = true) {r9 : Room} (M : sx_M l G yX9_hour wsX9_hour r9 [.ref h, .int a1, .int a2] wq (sx_QL G) "java/lang/IllegalArgumentException") (hc9 : r9.cells = 1) (hs9 : r9.slots = 6) (hf9 : r9.frames ≤ 9) (hl9 : r9.locals ≤ 300) : sy_M l G yL_hour wsL_hour ({ frames := 10, cells := 1, slots := 6, locals := 340 } : Room) [.ref h, .int a1, .int a2, .ref o] ((o, .inl (G.2.1.2, 1, .inr (.inl ov))) :: (h, .inr (9, fs)) :: wc) (sw_QI G (S := Unit) (fun (r : Int32) (u : Unit) => r = 2) (fun _ => ((o, .inl (G.2.1.2, 1, .inr (.inl ov))) :: (h, .inr (9, fs)) :: wc))) 1 6 := by
  refine sy_start (cc := cL_hour) (maxL := 5) (ret := some .int) (hh := [(0, 9, 12, 13), (0, 9, 16, 15)]) (lv := [(0, .ref h), (1, .int a1), (2, .int a2), (3, .ref o)]) (own := RL) (by decide +kernel) rfl rfl rfl (Nat.le_of_ble_eq_true rfl) (fun C F T => ?_)
  refine sw_aload_n (pc := 0) F dL_hour_0 rfl 3 rfl ?_
  refine sw_iconst (pc := 1) (v := 0) F dL_hour_1 rfl ?_
  refine sw_aload_n (pc := 2) F dL_hour_2 rfl 0 rfl ?_
  refine sw_iload_n (pc := 3) F dL_hour_3 rfl 1 rfl ?_
  refine sw_iload_n (pc := 4) F dL_hour_4 rfl 2 rfl ?_
  refine sy_calll (pc := 5) (x := { startPc := 0, endPc := 9, handlerPc := 16, catchType := 15 }) F T (sx_runV (R := ({ frames := 10, cells := 1, slots := 6, locals := 340 } : Room)) (q0 := 1) (na := 2) (ci := 9) F T.2.2.2.2.2.1.1 T.2.1 T.2.2.1 M isC hC hnd gL_hour_X9_hour rfl hc9 hs9 (by decide +kernel) ⟨Nat.succ_le_succ hf9, by show 8 + (3 + 11) + r9.locals ≤ 340; omega⟩ rfl rfl rfl rfl rfl (Nat.le_of_ble_eq_true rfl) dL_hour_5 (Nat.le_of_ble_eq_true rfl) (Nat.le_of_ble_eq_true rfl)) isC hC [{ startPc := 0, endPc := 9, handlerPc := 12, catchType := 13 }] [] rfl (fun z hz => by rw [List.mem_singleton] at hz; subst hz; exact ⟨by decide, "java/lang/IndexOutOfBoundsException", (List.mem_of_getElem? (i := 1) rfl), T.2.2.2.2.2.1.2.1⟩) (by decide) (by decide) (List.mem_of_getElem? (i := 2) rfl) (List.mem_append_right _ (List.mem_append_left _ (by decide +kernel))) (fun q => ?_)
  refine sw_astore (pc := 16) (lv' := [(4, .ref q), (0, .ref h), (1, .int a1), (2, .int a2), (3, .ref o)]) F T.1 dL_hour_16 (by decide) rfl ?_
  refine sw_iconst (pc := 18) (v := 2) F dL_hour_18 rfl ?_
  exact sy_iret (pc := 19) F T rfl rfl () rfl rfl dL_hour_19
set_option maxHeartbeats 4000000 in
set_option maxRecDepth 100000 in
theorem k_L_day (l : Launch) (G : sw_E) (h : Nat) (a1 : Int32) (a2 : Int32) (o : Nat) (ov : Nat → Int64) (fs : List Value) (wc : va_W) {S : Type} {post : Int64 → S → Prop} {wf : S → va_W} {r9 : Room} (M : sw_M l G yX9_day wsX9_day r9 [.ref h, .int a1, .int a2] ((h, .inr (9, fs)) :: wc) (sw_QL G post wf) 0 0) (hc9 : r9.cells = 0) (hs9 : r9.slots = 0) (hf9 : r9.frames ≤ 9) (hl9 : r9.locals ≤ 300) : sy_M l G yL_day wsL_day ({ frames := 10, cells := 0, slots := 0, locals := 340 } : Room) [.ref h, .int a1, .int a2, .ref o] ((o, .inl (G.2.1.2, 1, .inr (.inl ov))) :: (h, .inr (9, fs)) :: wc) (sw_QI G (S := Int64 × S) (fun (r : Int32) (u : Int64 × S) => r = 0 ∧ post u.1 u.2) (fun u => (o, .inl (G.2.1.2, 1, .inr (.inl (vp_updL ov 0 u.1)))) :: wf u.2)) 0 0 := by
  refine sy_start (cc := cL_day) (maxL := 5) (ret := some .int) (hh := [(0, 9, 12, 13), (0, 9, 16, 15)]) (lv := [(0, .ref h), (1, .int a1), (2, .int a2), (3, .ref o)]) (own := RL) (by decide +kernel) rfl rfl rfl (Nat.le_of_ble_eq_true rfl) (fun C F T => ?_)
  refine sw_aload_n (pc := 0) F dL_day_0 rfl 3 rfl ?_
  refine sw_iconst (pc := 1) (v := 0) F dL_day_1 rfl ?_
  refine sw_aload_n (pc := 2) F dL_day_2 rfl 0 rfl ?_
  refine sw_iload_n (pc := 3) F dL_day_3 rfl 1 rfl ?_
  refine sw_iload_n (pc := 4) F dL_day_4 rfl 2 rfl ?_
  refine sw_calll (pc := 5) (wr := [(o, .inl (G.2.1.2, 1, .inr (.inl ov)))]) (k' := 0) (n' := 0) F (sw_runV (R := ({ frames := 10, cells := 0, slots := 0, locals := 340 } : Room)) (q0 := 0) (na := 2) (ci := 9) F T.2.1 T.2.2.1 M (sy_is ((h, .inr (9, fs)) :: wc)) (sy_is_map _ _) (sy_is_nd _) gL_day_X9_day rfl hc9 hs9 (by decide +kernel) ⟨Nat.succ_le_succ hf9, by show 8 + (3 + 11) + r9.locals ≤ 340; omega⟩ rfl rfl rfl rfl rfl (Nat.le_of_ble_eq_true rfl) dL_day_5 (Nat.le_of_ble_eq_true rfl) (Nat.le_of_ble_eq_true rfl)) (sy_is ((h, .inr (9, fs)) :: wc)) [0] (sy_is_map _ _) rfl (by decide) (sy_is_dis _) rfl rfl (fun r u hp => ?_)
  refine sw_last (pc := 8) (ws' := (o, .inl (G.2.1.2, 1, .inr (.inl (vp_updL ov 0 r)))) :: wf u) F 0 rfl (sw_in rfl) dL_day_8 rfl ?_
  refine sw_goto (pc := 9) (tgt := 20) F dL_day_9 (by decide) ?_
  refine sw_iconst (pc := 20) (v := 0) F dL_day_20 rfl ?_
  exact sy_iret (pc := 21) F T rfl rfl (r, u) ⟨rfl, hp⟩ rfl dL_day_21
set_option maxHeartbeats 4000000 in
set_option maxRecDepth 100000 in
theorem kt_L_day_1 (l : Launch) (G : sw_E) (h : Nat) (a1 : Int32) (a2 : Int32) (o : Nat) (ov : Nat → Int64) (fs : List Value) (wc wq : va_W) (isC : List Nat) (hC : isC.map (fun i => (((o, .inl (G.2.1.2, 1, .inr (.inl ov))) :: (h, .inr (9, fs)) :: wc))[i]?) = wq.map some) (hnd : va_nd isC = true) {r9 : Room} (M : sx_M l G yX9_day wsX9_day r9 [.ref h, .int a1, .int a2] wq (sx_QL G) "java/lang/IndexOutOfBoundsException") (hc9 : r9.cells = 1) (hs9 : r9.slots = 6) (hf9 : r9.frames ≤ 9) (hl9 : r9.locals ≤ 300) : sy_M l G yL_day wsL_day ({ frames := 10, cells := 1, slots := 6, locals := 340 } : Room) [.ref h, .int a1, .int a2, .ref o] ((o, .inl (G.2.1.2, 1, .inr (.inl ov))) :: (h, .inr (9, fs)) :: wc) (sw_QI G (S := Unit) (fun (r : Int32) (u : Unit) => r = 1) (fun _ => ((o, .inl (G.2.1.2, 1, .inr (.inl ov))) :: (h, .inr (9, fs)) :: wc))) 1 6 := by
  refine sy_start (cc := cL_day) (maxL := 5) (ret := some .int) (hh := [(0, 9, 12, 13), (0, 9, 16, 15)]) (lv := [(0, .ref h), (1, .int a1), (2, .int a2), (3, .ref o)]) (own := RL) (by decide +kernel) rfl rfl rfl (Nat.le_of_ble_eq_true rfl) (fun C F T => ?_)
  refine sw_aload_n (pc := 0) F dL_day_0 rfl 3 rfl ?_
  refine sw_iconst (pc := 1) (v := 0) F dL_day_1 rfl ?_
  refine sw_aload_n (pc := 2) F dL_day_2 rfl 0 rfl ?_
  refine sw_iload_n (pc := 3) F dL_day_3 rfl 1 rfl ?_
  refine sw_iload_n (pc := 4) F dL_day_4 rfl 2 rfl ?_
  refine sy_calll (pc := 5) (x := { startPc := 0, endPc := 9, handlerPc := 12, catchType := 13 }) F T (sx_runV (R := ({ frames := 10, cells := 1, slots := 6, locals := 340 } : Room)) (q0 := 1) (na := 2) (ci := 9) F T.2.2.2.2.2.1.1 T.2.1 T.2.2.1 M isC hC hnd gL_day_X9_day rfl hc9 hs9 (by decide +kernel) ⟨Nat.succ_le_succ hf9, by show 8 + (3 + 11) + r9.locals ≤ 340; omega⟩ rfl rfl rfl rfl rfl (Nat.le_of_ble_eq_true rfl) dL_day_5 (Nat.le_of_ble_eq_true rfl) (Nat.le_of_ble_eq_true rfl)) isC hC [] [{ startPc := 0, endPc := 9, handlerPc := 16, catchType := 15 }] rfl (fun z hz => nomatch hz) (by decide) (by decide) (List.mem_of_getElem? (i := 1) rfl) (List.mem_append_left _ (by decide +kernel)) (fun q => ?_)
  refine sw_astore (pc := 12) (lv' := [(4, .ref q), (0, .ref h), (1, .int a1), (2, .int a2), (3, .ref o)]) F T.1 dL_day_12 (by decide) rfl ?_
  refine sw_iconst (pc := 14) (v := 1) F dL_day_14 rfl ?_
  exact sy_iret (pc := 15) F T rfl rfl () rfl rfl dL_day_15
set_option maxHeartbeats 4000000 in
set_option maxRecDepth 100000 in
theorem kt_L_day_2 (l : Launch) (G : sw_E) (h : Nat) (a1 : Int32) (a2 : Int32) (o : Nat) (ov : Nat → Int64) (fs : List Value) (wc wq : va_W) (isC : List Nat) (hC : isC.map (fun i => (((o, .inl (G.2.1.2, 1, .inr (.inl ov))) :: (h, .inr (9, fs)) :: wc))[i]?) = wq.map some) (hnd : va_nd isC = true) {r9 : Room} (M : sx_M l G yX9_day wsX9_day r9 [.ref h, .int a1, .int a2] wq (sx_QL G) "java/lang/IllegalArgumentException") (hc9 : r9.cells = 1) (hs9 : r9.slots = 6) (hf9 : r9.frames ≤ 9) (hl9 : r9.locals ≤ 300) : sy_M l G yL_day wsL_day ({ frames := 10, cells := 1, slots := 6, locals := 340 } : Room) [.ref h, .int a1, .int a2, .ref o] ((o, .inl (G.2.1.2, 1, .inr (.inl ov))) :: (h, .inr (9, fs)) :: wc) (sw_QI G (S := Unit) (fun (r : Int32) (u : Unit) => r = 2) (fun _ => ((o, .inl (G.2.1.2, 1, .inr (.inl ov))) :: (h, .inr (9, fs)) :: wc))) 1 6 := by
  refine sy_start (cc := cL_day) (maxL := 5) (ret := some .int) (hh := [(0, 9, 12, 13), (0, 9, 16, 15)]) (lv := [(0, .ref h), (1, .int a1), (2, .int a2), (3, .ref o)]) (own := RL) (by decide +kernel) rfl rfl rfl (Nat.le_of_ble_eq_true rfl) (fun C F T => ?_)
  refine sw_aload_n (pc := 0) F dL_day_0 rfl 3 rfl ?_
  refine sw_iconst (pc := 1) (v := 0) F dL_day_1 rfl ?_
  refine sw_aload_n (pc := 2) F dL_day_2 rfl 0 rfl ?_
  refine sw_iload_n (pc := 3) F dL_day_3 rfl 1 rfl ?_
  refine sw_iload_n (pc := 4) F dL_day_4 rfl 2 rfl ?_
  refine sy_calll (pc := 5) (x := { startPc := 0, endPc := 9, handlerPc := 16, catchType := 15 }) F T (sx_runV (R := ({ frames := 10, cells := 1, slots := 6, locals := 340 } : Room)) (q0 := 1) (na := 2) (ci := 9) F T.2.2.2.2.2.1.1 T.2.1 T.2.2.1 M isC hC hnd gL_day_X9_day rfl hc9 hs9 (by decide +kernel) ⟨Nat.succ_le_succ hf9, by show 8 + (3 + 11) + r9.locals ≤ 340; omega⟩ rfl rfl rfl rfl rfl (Nat.le_of_ble_eq_true rfl) dL_day_5 (Nat.le_of_ble_eq_true rfl) (Nat.le_of_ble_eq_true rfl)) isC hC [{ startPc := 0, endPc := 9, handlerPc := 12, catchType := 13 }] [] rfl (fun z hz => by rw [List.mem_singleton] at hz; subst hz; exact ⟨by decide, "java/lang/IndexOutOfBoundsException", (List.mem_of_getElem? (i := 1) rfl), T.2.2.2.2.2.1.2.1⟩) (by decide) (by decide) (List.mem_of_getElem? (i := 2) rfl) (List.mem_append_right _ (List.mem_append_left _ (by decide +kernel))) (fun q => ?_)
  refine sw_astore (pc := 16) (lv' := [(4, .ref q), (0, .ref h), (1, .int a1), (2, .int a2), (3, .ref o)]) F T.1 dL_day_16 (by decide) rfl ?_
  refine sw_iconst (pc := 18) (v := 2) F dL_day_18 rfl ?_
  exact sy_iret (pc := 19) F T rfl rfl () rfl rfl dL_day_19
set_option maxHeartbeats 4000000 in
set_option maxRecDepth 100000 in
theorem k_L_event (l : Launch) (G : sw_E) (h : Nat) (a1 : Int32) (a2 : Int32) (o : Nat) (ov : Nat → Int64) (fs : List Value) (wc : va_W) {S : Type} {post : Int64 → S → Prop} {wf : S → va_W} {r9 : Room} (M : sw_M l G yX9_event wsX9_event r9 [.ref h, .int a1, .int a2] ((h, .inr (9, fs)) :: wc) (sw_QL G post wf) 0 0) (hc9 : r9.cells = 0) (hs9 : r9.slots = 0) (hf9 : r9.frames ≤ 9) (hl9 : r9.locals ≤ 300) : sy_M l G yL_event wsL_event ({ frames := 10, cells := 0, slots := 0, locals := 340 } : Room) [.ref h, .int a1, .int a2, .ref o] ((o, .inl (G.2.1.2, 1, .inr (.inl ov))) :: (h, .inr (9, fs)) :: wc) (sw_QI G (S := Int64 × S) (fun (r : Int32) (u : Int64 × S) => r = 0 ∧ post u.1 u.2) (fun u => (o, .inl (G.2.1.2, 1, .inr (.inl (vp_updL ov 0 u.1)))) :: wf u.2)) 0 0 := by
  refine sy_start (cc := cL_event) (maxL := 5) (ret := some .int) (hh := [(0, 9, 12, 13), (0, 9, 16, 15)]) (lv := [(0, .ref h), (1, .int a1), (2, .int a2), (3, .ref o)]) (own := RL) (by decide +kernel) rfl rfl rfl (Nat.le_of_ble_eq_true rfl) (fun C F T => ?_)
  refine sw_aload_n (pc := 0) F dL_event_0 rfl 3 rfl ?_
  refine sw_iconst (pc := 1) (v := 0) F dL_event_1 rfl ?_
  refine sw_aload_n (pc := 2) F dL_event_2 rfl 0 rfl ?_
  refine sw_iload_n (pc := 3) F dL_event_3 rfl 1 rfl ?_
  refine sw_iload_n (pc := 4) F dL_event_4 rfl 2 rfl ?_
  refine sw_calll (pc := 5) (wr := [(o, .inl (G.2.1.2, 1, .inr (.inl ov)))]) (k' := 0) (n' := 0) F (sw_runV (R := ({ frames := 10, cells := 0, slots := 0, locals := 340 } : Room)) (q0 := 0) (na := 2) (ci := 9) F T.2.1 T.2.2.1 M (sy_is ((h, .inr (9, fs)) :: wc)) (sy_is_map _ _) (sy_is_nd _) gL_event_X9_event rfl hc9 hs9 (by decide +kernel) ⟨Nat.succ_le_succ hf9, by show 8 + (3 + 11) + r9.locals ≤ 340; omega⟩ rfl rfl rfl rfl rfl (Nat.le_of_ble_eq_true rfl) dL_event_5 (Nat.le_of_ble_eq_true rfl) (Nat.le_of_ble_eq_true rfl)) (sy_is ((h, .inr (9, fs)) :: wc)) [0] (sy_is_map _ _) rfl (by decide) (sy_is_dis _) rfl rfl (fun r u hp => ?_)
  refine sw_last (pc := 8) (ws' := (o, .inl (G.2.1.2, 1, .inr (.inl (vp_updL ov 0 r)))) :: wf u) F 0 rfl (sw_in rfl) dL_event_8 rfl ?_
  refine sw_goto (pc := 9) (tgt := 20) F dL_event_9 (by decide) ?_
  refine sw_iconst (pc := 20) (v := 0) F dL_event_20 rfl ?_
  exact sy_iret (pc := 21) F T rfl rfl (r, u) ⟨rfl, hp⟩ rfl dL_event_21
set_option maxHeartbeats 4000000 in
set_option maxRecDepth 100000 in
theorem kt_L_event_1 (l : Launch) (G : sw_E) (h : Nat) (a1 : Int32) (a2 : Int32) (o : Nat) (ov : Nat → Int64) (fs : List Value) (wc wq : va_W) (isC : List Nat) (hC : isC.map (fun i => (((o, .inl (G.2.1.2, 1, .inr (.inl ov))) :: (h, .inr (9, fs)) :: wc))[i]?) = wq.map some) (hnd : va_nd isC = true) {r9 : Room} (M : sx_M l G yX9_event wsX9_event r9 [.ref h, .int a1, .int a2] wq (sx_QL G) "java/lang/IndexOutOfBoundsException") (hc9 : r9.cells = 1) (hs9 : r9.slots = 6) (hf9 : r9.frames ≤ 9) (hl9 : r9.locals ≤ 300) : sy_M l G yL_event wsL_event ({ frames := 10, cells := 1, slots := 6, locals := 340 } : Room) [.ref h, .int a1, .int a2, .ref o] ((o, .inl (G.2.1.2, 1, .inr (.inl ov))) :: (h, .inr (9, fs)) :: wc) (sw_QI G (S := Unit) (fun (r : Int32) (u : Unit) => r = 1) (fun _ => ((o, .inl (G.2.1.2, 1, .inr (.inl ov))) :: (h, .inr (9, fs)) :: wc))) 1 6 := by
  refine sy_start (cc := cL_event) (maxL := 5) (ret := some .int) (hh := [(0, 9, 12, 13), (0, 9, 16, 15)]) (lv := [(0, .ref h), (1, .int a1), (2, .int a2), (3, .ref o)]) (own := RL) (by decide +kernel) rfl rfl rfl (Nat.le_of_ble_eq_true rfl) (fun C F T => ?_)
  refine sw_aload_n (pc := 0) F dL_event_0 rfl 3 rfl ?_
  refine sw_iconst (pc := 1) (v := 0) F dL_event_1 rfl ?_
  refine sw_aload_n (pc := 2) F dL_event_2 rfl 0 rfl ?_
  refine sw_iload_n (pc := 3) F dL_event_3 rfl 1 rfl ?_
  refine sw_iload_n (pc := 4) F dL_event_4 rfl 2 rfl ?_
  refine sy_calll (pc := 5) (x := { startPc := 0, endPc := 9, handlerPc := 12, catchType := 13 }) F T (sx_runV (R := ({ frames := 10, cells := 1, slots := 6, locals := 340 } : Room)) (q0 := 1) (na := 2) (ci := 9) F T.2.2.2.2.2.1.1 T.2.1 T.2.2.1 M isC hC hnd gL_event_X9_event rfl hc9 hs9 (by decide +kernel) ⟨Nat.succ_le_succ hf9, by show 8 + (3 + 11) + r9.locals ≤ 340; omega⟩ rfl rfl rfl rfl rfl (Nat.le_of_ble_eq_true rfl) dL_event_5 (Nat.le_of_ble_eq_true rfl) (Nat.le_of_ble_eq_true rfl)) isC hC [] [{ startPc := 0, endPc := 9, handlerPc := 16, catchType := 15 }] rfl (fun z hz => nomatch hz) (by decide) (by decide) (List.mem_of_getElem? (i := 1) rfl) (List.mem_append_left _ (by decide +kernel)) (fun q => ?_)
  refine sw_astore (pc := 12) (lv' := [(4, .ref q), (0, .ref h), (1, .int a1), (2, .int a2), (3, .ref o)]) F T.1 dL_event_12 (by decide) rfl ?_
  refine sw_iconst (pc := 14) (v := 1) F dL_event_14 rfl ?_
  exact sy_iret (pc := 15) F T rfl rfl () rfl rfl dL_event_15
set_option maxHeartbeats 4000000 in
set_option maxRecDepth 100000 in
theorem kt_L_event_2 (l : Launch) (G : sw_E) (h : Nat) (a1 : Int32) (a2 : Int32) (o : Nat) (ov : Nat → Int64) (fs : List Value) (wc wq : va_W) (isC : List Nat) (hC : isC.map (fun i => (((o, .inl (G.2.1.2, 1, .inr (.inl ov))) :: (h, .inr (9, fs)) :: wc))[i]?) = wq.map some) (hnd : va_nd isC = true) {r9 : Room} (M : sx_M l G yX9_event wsX9_event r9 [.ref h, .int a1, .int a2] wq (sx_QL G) "java/lang/IllegalArgumentException") (hc9 : r9.cells = 1) (hs9 : r9.slots = 6) (hf9 : r9.frames ≤ 9) (hl9 : r9.locals ≤ 300) : sy_M l G yL_event wsL_event ({ frames := 10, cells := 1, slots := 6, locals := 340 } : Room) [.ref h, .int a1, .int a2, .ref o] ((o, .inl (G.2.1.2, 1, .inr (.inl ov))) :: (h, .inr (9, fs)) :: wc) (sw_QI G (S := Unit) (fun (r : Int32) (u : Unit) => r = 2) (fun _ => ((o, .inl (G.2.1.2, 1, .inr (.inl ov))) :: (h, .inr (9, fs)) :: wc))) 1 6 := by
  refine sy_start (cc := cL_event) (maxL := 5) (ret := some .int) (hh := [(0, 9, 12, 13), (0, 9, 16, 15)]) (lv := [(0, .ref h), (1, .int a1), (2, .int a2), (3, .ref o)]) (own := RL) (by decide +kernel) rfl rfl rfl (Nat.le_of_ble_eq_true rfl) (fun C F T => ?_)
  refine sw_aload_n (pc := 0) F dL_event_0 rfl 3 rfl ?_
  refine sw_iconst (pc := 1) (v := 0) F dL_event_1 rfl ?_
  refine sw_aload_n (pc := 2) F dL_event_2 rfl 0 rfl ?_
  refine sw_iload_n (pc := 3) F dL_event_3 rfl 1 rfl ?_
  refine sw_iload_n (pc := 4) F dL_event_4 rfl 2 rfl ?_
  refine sy_calll (pc := 5) (x := { startPc := 0, endPc := 9, handlerPc := 16, catchType := 15 }) F T (sx_runV (R := ({ frames := 10, cells := 1, slots := 6, locals := 340 } : Room)) (q0 := 1) (na := 2) (ci := 9) F T.2.2.2.2.2.1.1 T.2.1 T.2.2.1 M isC hC hnd gL_event_X9_event rfl hc9 hs9 (by decide +kernel) ⟨Nat.succ_le_succ hf9, by show 8 + (3 + 11) + r9.locals ≤ 340; omega⟩ rfl rfl rfl rfl rfl (Nat.le_of_ble_eq_true rfl) dL_event_5 (Nat.le_of_ble_eq_true rfl) (Nat.le_of_ble_eq_true rfl)) isC hC [{ startPc := 0, endPc := 9, handlerPc := 12, catchType := 13 }] [] rfl (fun z hz => by rw [List.mem_singleton] at hz; subst hz; exact ⟨by decide, "java/lang/IndexOutOfBoundsException", (List.mem_of_getElem? (i := 1) rfl), T.2.2.2.2.2.1.2.1⟩) (by decide) (by decide) (List.mem_of_getElem? (i := 2) rfl) (List.mem_append_right _ (List.mem_append_left _ (by decide +kernel))) (fun q => ?_)
  refine sw_astore (pc := 16) (lv' := [(4, .ref q), (0, .ref h), (1, .int a1), (2, .int a2), (3, .ref o)]) F T.1 dL_event_16 (by decide) rfl ?_
  refine sw_iconst (pc := 18) (v := 2) F dL_event_18 rfl ?_
  exact sy_iret (pc := 19) F T rfl rfl () rfl rfl dL_event_19
set_option maxHeartbeats 4000000 in
set_option maxRecDepth 100000 in
theorem k_L_undo (l : Launch) (G : sw_E) (h : Nat)  (o : Nat) (ov : Nat → Int64) (fs : List Value) (wc : va_W) {S : Type} {post : Int32 → S → Prop} {wf : S → va_W} {r9 : Room} (M : sw_M l G yX9_undo wsX9_undo r9 [.ref h] ((h, .inr (9, fs)) :: wc) (sw_QI G post wf) 0 0) (hc9 : r9.cells = 0) (hs9 : r9.slots = 0) (hf9 : r9.frames ≤ 9) (hl9 : r9.locals ≤ 300) : sy_M l G yL_undo wsL_undo ({ frames := 10, cells := 0, slots := 0, locals := 340 } : Room) [.ref h, .ref o] ((o, .inl (G.2.1.2, 1, .inr (.inl ov))) :: (h, .inr (9, fs)) :: wc) (sw_QI G (S := Int32 × S) (fun (r : Int32) (u : Int32 × S) => r = 0 ∧ post u.1 u.2) (fun u => (o, .inl (G.2.1.2, 1, .inr (.inl (vp_updL ov 0 u.1.toInt64)))) :: wf u.2)) 0 0 := by
  refine sy_start (cc := cL_undo) (maxL := 3) (ret := some .int) (hh := [(0, 8, 11, 49)]) (lv := [(0, .ref h), (1, .ref o)]) (own := RL) (by decide +kernel) rfl rfl rfl (Nat.le_of_ble_eq_true rfl) (fun C F T => ?_)
  refine sw_aload_n (pc := 0) F dL_undo_0 rfl 1 rfl ?_
  refine sw_iconst (pc := 1) (v := 0) F dL_undo_1 rfl ?_
  refine sw_aload_n (pc := 2) F dL_undo_2 rfl 0 rfl ?_
  refine sw_calli (pc := 3) (wr := [(o, .inl (G.2.1.2, 1, .inr (.inl ov)))]) (k' := 0) (n' := 0) F (sw_runV (R := ({ frames := 10, cells := 0, slots := 0, locals := 340 } : Room)) (q0 := 0) (na := 0) (ci := 9) F T.2.1 T.2.2.1 M (sy_is ((h, .inr (9, fs)) :: wc)) (sy_is_map _ _) (sy_is_nd _) gL_undo_X9_undo rfl hc9 hs9 (by decide +kernel) ⟨Nat.succ_le_succ hf9, by show 8 + (2 + 11) + r9.locals ≤ 340; omega⟩ rfl rfl rfl rfl rfl (Nat.le_of_ble_eq_true rfl) dL_undo_3 (Nat.le_of_ble_eq_true rfl) (Nat.le_of_ble_eq_true rfl)) (sy_is ((h, .inr (9, fs)) :: wc)) [0] (sy_is_map _ _) rfl (by decide) (sy_is_dis _) rfl rfl (fun r u hp => ?_)
  refine sw_i2l (pc := 6) F dL_undo_6 rfl ?_
  refine sw_last (pc := 7) (ws' := (o, .inl (G.2.1.2, 1, .inr (.inl (vp_updL ov 0 r.toInt64)))) :: wf u) F 0 rfl (sw_in rfl) dL_undo_7 rfl ?_
  refine sw_goto (pc := 8) (tgt := 14) F dL_undo_8 (by decide) ?_
  refine sw_iconst (pc := 14) (v := 0) F dL_undo_14 rfl ?_
  exact sy_iret (pc := 15) F T rfl rfl (r, u) ⟨rfl, hp⟩ rfl dL_undo_15
set_option maxHeartbeats 4000000 in
set_option maxRecDepth 100000 in
theorem kt_L_undo_1 (l : Launch) (G : sw_E) (h : Nat)  (o : Nat) (ov : Nat → Int64) (fs : List Value) (wc wq : va_W) (isC : List Nat) (hC : isC.map (fun i => (((o, .inl (G.2.1.2, 1, .inr (.inl ov))) :: (h, .inr (9, fs)) :: wc))[i]?) = wq.map some) (hnd : va_nd isC = true) {r9 : Room} (M : sx_M l G yX9_undo wsX9_undo r9 [.ref h] wq (sx_QI G) "java/lang/IllegalStateException") (hc9 : r9.cells = 1) (hs9 : r9.slots = 6) (hf9 : r9.frames ≤ 9) (hl9 : r9.locals ≤ 300) : sy_M l G yL_undo wsL_undo ({ frames := 10, cells := 1, slots := 6, locals := 340 } : Room) [.ref h, .ref o] ((o, .inl (G.2.1.2, 1, .inr (.inl ov))) :: (h, .inr (9, fs)) :: wc) (sw_QI G (S := Unit) (fun (r : Int32) (u : Unit) => r = 1) (fun _ => ((o, .inl (G.2.1.2, 1, .inr (.inl ov))) :: (h, .inr (9, fs)) :: wc))) 1 6 := by
  refine sy_start (cc := cL_undo) (maxL := 3) (ret := some .int) (hh := [(0, 8, 11, 49)]) (lv := [(0, .ref h), (1, .ref o)]) (own := RL) (by decide +kernel) rfl rfl rfl (Nat.le_of_ble_eq_true rfl) (fun C F T => ?_)
  refine sw_aload_n (pc := 0) F dL_undo_0 rfl 1 rfl ?_
  refine sw_iconst (pc := 1) (v := 0) F dL_undo_1 rfl ?_
  refine sw_aload_n (pc := 2) F dL_undo_2 rfl 0 rfl ?_
  refine sy_calli (pc := 3) (x := { startPc := 0, endPc := 8, handlerPc := 11, catchType := 49 }) F T (sx_runV (R := ({ frames := 10, cells := 1, slots := 6, locals := 340 } : Room)) (q0 := 1) (na := 0) (ci := 9) F T.2.2.2.2.2.1.1 T.2.1 T.2.2.1 M isC hC hnd gL_undo_X9_undo rfl hc9 hs9 (by decide +kernel) ⟨Nat.succ_le_succ hf9, by show 8 + (2 + 11) + r9.locals ≤ 340; omega⟩ rfl rfl rfl rfl rfl (Nat.le_of_ble_eq_true rfl) dL_undo_3 (Nat.le_of_ble_eq_true rfl) (Nat.le_of_ble_eq_true rfl)) isC hC [] [] rfl (fun z hz => nomatch hz) (by decide) (by decide) (List.mem_of_getElem? (i := 1) rfl) (List.mem_append_right _ (List.mem_append_right _ (by decide +kernel))) (fun q => ?_)
  refine sw_astore_n (pc := 11) (lv' := [(2, .ref q), (0, .ref h), (1, .ref o)]) F T.1 dL_undo_11 rfl (by decide) rfl ?_
  refine sw_iconst (pc := 12) (v := 1) F dL_undo_12 rfl ?_
  exact sy_iret (pc := 13) F T rfl rfl () rfl rfl dL_undo_13
