/-! ===== THE LAW'S CASES, each over any contracts of the two methods that it calls ===== -/
abbrev lw_rm (G : sw_E) (m b0 b1 : Nat) (np th : Int32) (hh : Int64) (S P : Nat → Int64) : va_W := [(m, .inr (10, [.ref b0, .ref b1, .int np, .int th, .long hh])), (b0, .inl (G.2.1.2, 344, .inr (.inl S))), (b1, .inl (G.2.1.2, 1032, .inr (.inl P)))]
abbrev lw_out (G : sw_E) (o : Nat) (ov : Nat → Int64) : Nat × va_E := (o, .inl (G.2.1.2, 1, .inr (.inl ov)))
def LF (G : sw_E) (C : sw_C) (l : Launch) (b L : Nat) (xs : Nat → Int32) : Prop := sw_n C = 8 ∧ sw_R C = room_1 ∧ sw_l C = l ∧ sy_N (sw_s C) ∧ va_X b L xs (sw_s C) (sw_s C).heap ∧ b < (sw_s C).heap.size ∧ ¬ sw_A C b
theorem lw_room {x y : Nat} (h : x ≤ 340) (hy : y ≤ 69) : 8 + (y + 11) + x ≤ room_1.locals := by show 8 + (y + 11) + x ≤ 428; omega
theorem q0_law_ldc : Cond.constantLong RL 166 4294967295 ∈ wsL_law := List.mem_of_getElem? (i := 7) rfl
set_option maxHeartbeats 4000000 in
set_option maxRecDepth 100000 in
theorem law_c0 {G : sw_E} {C : sw_C} {k n : Nat} {l : Launch} {b L : Nat} {xs : Nat → Int32} (F : sw_H G C cL_law RL wsL_law) (hF : LF G C l b L xs) {h m o : Nat} {i : Int32} {a1 a2 : Int32} (hi1 : vp_in (i + 1) L) (e1 : xs (i + 1).toNatClampNeg = a1) (hi2 : vp_in (i + 2) L) (e2 : xs (i + 2).toNatClampNeg = a2) {b0 b1 : Nat} {np th : Int32} {hh : Int64} {S P : Nat → Int64} {ov : Nat → Int64} {wA wR : va_W} {mc ms : Nat} {S1 S2 : Type} {po : Int32 → S1 → Prop} {ovf : S1 → Nat → Int64} {wAf : S1 → va_W} {pr : Int32 → S2 → Prop} {npf thf : S2 → Int32} {hhf : S2 → Int64} {Sf Pf : S2 → Nat → Int64} {rm2 : Room}
    (ML : sy_M l G yL_setSpan wsL_setSpan ({ frames := 10, cells := mc, slots := ms, locals := 340 } : Room) [.ref h, .int a1, .int a2, .ref o] (lw_out G o ov :: wA) (sw_QI G po (fun u => lw_out G o (ovf u) :: wAf u)) mc ms)
    (MR : sw_M l G yX10_setSpan wsX10_setSpan rm2 [.ref m, .int a1, .int a2] (lw_rm G m b0 b1 np th hh S P) (sw_QI G pr (fun u => lw_rm G m b0 b1 (npf u) (thf u) (hhf u) (Sf u) (Pf u))) 0 0) (hr2 : rm2.cells = 0 ∧ rm2.slots = 0 ∧ rm2.frames ≤ 11 ∧ rm2.locals ≤ 340)
    (hk : k + mc ≤ room_1.cells) (hn : n + ms ≤ room_1.slots) (hA : ∀ r u r' u', po r u → pr r' u' → thf u' = r ∧ (r = 0 → ovf u 0 = r'.toInt64))
    (kk : ∀ r u r' u', po r u → pr r' u' → SW G C (k + mc) (n + ms) (lw_rm G m b0 b1 (npf u') (thf u') (hhf u') (Sf u') (Pf u') ++ ((lw_out G o (ovf u) :: wAf u) ++ wR)) [(4, .int i), (3, .ref o), (2, .ref m), (1, .ref h), (0, .ref b)] 1582 []) : SW G C k n (lw_rm G m b0 b1 np th hh S P ++ ((lw_out G o ov :: wA) ++ wR)) [(4, .int i), (3, .ref o), (2, .ref m), (1, .ref h), (0, .ref b)] 172 [] := by
  refine sw_aload_n (pc := 172) F dL_law_172 rfl 3 rfl ?_
  refine sw_aload_n (pc := 173) F dL_law_173 rfl 4 rfl ?_
  refine sw_iload (pc := 174) F dL_law_174 0 rfl ?_
  refine sw_iconst (pc := 176) (v := 1) F dL_law_176 rfl ?_
  refine sw_iadd (pc := 177) F dL_law_177 ?_
  refine ly_sld (pc := 178) F hF.2.2.2.2.1 hF.2.2.2.2.2.1 hF.2.2.2.2.2.2 hi1 dL_law_178 ?_
  refine sw_eqt (v := .int a1) (by rw [e1]) ?_
  refine sw_aload_n (pc := 179) F dL_law_179 rfl 4 rfl ?_
  refine sw_iload (pc := 180) F dL_law_180 0 rfl ?_
  refine sw_iconst (pc := 182) (v := 2) F dL_law_182 rfl ?_
  refine sw_iadd (pc := 183) F dL_law_183 ?_
  refine ly_sld (pc := 184) F hF.2.2.2.2.1 hF.2.2.2.2.2.1 hF.2.2.2.2.2.2 hi2 dL_law_184 ?_
  refine sw_eqt (v := .int a2) (by rw [e2]) ?_
  refine sw_aload_n (pc := 185) F dL_law_185 rfl 1 rfl ?_
  refine ly_calliX (pc := 186) (k' := k + mc) (n' := n + ms) (P := lw_rm G m b0 b1 np th hh S P) (Q := lw_out G o ov :: wA) (R := wR) F (ly_runS (Ro := room_1) (na := 4) F hF.2.2.2.1 hF.2.1 hF.2.2.1 ML (List.range' (lw_rm G m b0 b1 np th hh S P).length (lw_out G o ov :: wA).length) (ly_map (lw_rm G m b0 b1 np th hh S P) (lw_out G o ov :: wA) wR) (ly_nd _ _) gL_law_L_setSpan rfl rfl rfl (by decide +kernel) ⟨Nat.le_of_ble_eq_true rfl, Nat.le_of_ble_eq_true rfl⟩ rfl rfl (Nat.le_of_ble_eq_true rfl) dL_law_186 hk hn) rfl rfl (fun r u hp => ?_)
  refine sw_istore (pc := 189) (lv' := [(5, .int r), (4, .int i), (3, .ref o), (2, .ref m), (1, .ref h), (0, .ref b)]) F hF.1 dL_law_189 (by decide) rfl ?_
  refine sw_aload_n (pc := 191) F dL_law_191 rfl 3 rfl ?_
  refine sw_aload_n (pc := 192) F dL_law_192 rfl 5 rfl ?_
  refine sw_iload (pc := 193) F dL_law_193 1 rfl ?_
  refine sw_iconst (pc := 195) (v := 1) F dL_law_195 rfl ?_
  refine sw_iadd (pc := 196) F dL_law_196 ?_
  refine ly_sld (pc := 197) F hF.2.2.2.2.1 hF.2.2.2.2.2.1 hF.2.2.2.2.2.2 hi1 dL_law_197 ?_
  refine sw_eqt (v := .int a1) (by rw [e1]) ?_
  refine sw_aload_n (pc := 198) F dL_law_198 rfl 5 rfl ?_
  refine sw_iload (pc := 199) F dL_law_199 1 rfl ?_
  refine sw_iconst (pc := 201) (v := 2) F dL_law_201 rfl ?_
  refine sw_iadd (pc := 202) F dL_law_202 ?_
  refine ly_sld (pc := 203) F hF.2.2.2.2.1 hF.2.2.2.2.2.1 hF.2.2.2.2.2.2 hi2 dL_law_203 ?_
  refine sw_eqt (v := .int a2) (by rw [e2]) ?_
  refine ly_calli (pc := 204) (k' := k + mc) (n' := n + ms) (P := []) (Q := lw_rm G m b0 b1 np th hh S P) (R := (lw_out G o (ovf u) :: wAf u) ++ wR) F (sw_runV (R := room_1) (q0 := 0) (na := 2) (ci := 10) F hF.2.1 hF.2.2.1 MR (List.range' 0 3) (ly_map [] (lw_rm G m b0 b1 np th hh S P) ((lw_out G o (ovf u) :: wAf u) ++ wR)) (ly_nd _ _) gL_law_X10_setSpan rfl hr2.1 hr2.2.1 (by decide +kernel) ⟨Nat.succ_le_succ hr2.2.2.1, lw_room hr2.2.2.2 (Nat.le_of_ble_eq_true rfl)⟩ rfl rfl rfl rfl rfl (Nat.le_of_ble_eq_true rfl) dL_law_204 hk hn) rfl rfl (fun r' u' hp' => ?_)
  refine sw_istore (pc := 207) (lv' := [(6, .int r'), (5, .int r), (4, .int i), (3, .ref o), (2, .ref m), (1, .ref h), (0, .ref b)]) F hF.1 dL_law_207 (by decide) rfl ?_
  refine sw_aload_n (pc := 209) F dL_law_209 rfl 4 rfl ?_
  refine ly_calli (pc := 210) (k' := k + mc) (n' := n + ms) (P := []) (Q := lw_rm G m b0 b1 (npf u') (thf u') (hhf u') (Sf u') (Pf u')) (R := (lw_out G o (ovf u) :: wAf u) ++ wR) F (sw_runV (R := room_1) (q0 := 0) (na := 0) (ci := 10) F hF.2.1 hF.2.2.1 (k_X10_thrown l G m b0 b1 (npf u') (thf u') (hhf u') (Sf u') (Pf u')) (List.range' 0 3) (ly_map [] (lw_rm G m b0 b1 (npf u') (thf u') (hhf u') (Sf u') (Pf u')) ((lw_out G o (ovf u) :: wAf u) ++ wR)) (ly_nd _ _) gL_law_X10_thrown rfl rfl rfl (by decide +kernel) ⟨Nat.le_of_ble_eq_true rfl, Nat.le_of_ble_eq_true rfl⟩ rfl rfl rfl rfl rfl (Nat.le_of_ble_eq_true rfl) dL_law_210 hk hn) rfl rfl (fun t u9 ht => ?_)
  have ht' : t = thf u' := ht
  obtain ⟨hA1, hA2⟩ := hA r u r' u' hp hp'
  rw [hA1] at ht'
  subst ht'
  refine sw_iload (pc := 213) F dL_law_213 1 rfl ?_
  refine sw_icmp_eq (pc := 215) (tgt := 220) F dL_law_215 (by decide) (fun _ => ?_) (fun z => absurd rfl z)
  refine sw_iload (pc := 220) F dL_law_220 1 rfl ?_
  refine sw_if_ne (pc := 222) (tgt := 237) F dL_law_222 (by decide) (fun _ => ?_) (fun z => ?_)
  · skip
    refine sw_lvs (is := [2, 3, 4, 5, 6]) (lv' := [(4, .int i), (3, .ref o), (2, .ref m), (1, .ref h), (0, .ref b)]) rfl ?_
    refine sw_goto (pc := 237) (tgt := 1582) F dL_law_237 (by decide) ?_
    exact kk t u r' u' hp hp'
  · skip
    refine sw_aload_n (pc := 225) F dL_law_225 rfl 3 rfl ?_
    refine sw_iconst (pc := 226) (v := 0) F dL_law_226 rfl ?_
    refine sw_lald (pc := 227) F 3 rfl (sw_in rfl) dL_law_227 ?_
    refine sw_iload (pc := 228) F dL_law_228 0 rfl ?_
    refine sw_i2l (pc := 230) F dL_law_230 rfl ?_
    refine sw_lcmp_eq (pc := 231) (tgt := 237) F dL_law_231 dL_law_232 (by decide) (fun _ => ?_) (fun y => absurd (hA2 z) y)
    refine sw_lvs (is := [2, 3, 4, 5, 6]) (lv' := [(4, .int i), (3, .ref o), (2, .ref m), (1, .ref h), (0, .ref b)]) rfl ?_
    refine sw_goto (pc := 237) (tgt := 1582) F dL_law_237 (by decide) ?_
    exact kk t u r' u' hp hp'
set_option maxHeartbeats 4000000 in
set_option maxRecDepth 100000 in
theorem law_c1 {G : sw_E} {C : sw_C} {k n : Nat} {l : Launch} {b L : Nat} {xs : Nat → Int32} (F : sw_H G C cL_law RL wsL_law) (hF : LF G C l b L xs) {h m o : Nat} {i : Int32} {a1 a2 : Int32} (hi1 : vp_in (i + 1) L) (e1 : xs (i + 1).toNatClampNeg = a1) (hi2 : vp_in (i + 2) L) (e2 : xs (i + 2).toNatClampNeg = a2) {b0 b1 : Nat} {np th : Int32} {hh : Int64} {S P : Nat → Int64} {ov : Nat → Int64} {wA wR : va_W} {mc ms : Nat} {S1 S2 : Type} {po : Int32 → S1 → Prop} {ovf : S1 → Nat → Int64} {wAf : S1 → va_W} {pr : Int32 → S2 → Prop} {npf thf : S2 → Int32} {hhf : S2 → Int64} {Sf Pf : S2 → Nat → Int64} {rm2 : Room}
    (ML : sy_M l G yL_setDamping wsL_setDamping ({ frames := 10, cells := mc, slots := ms, locals := 340 } : Room) [.ref h, .int a1, .int a2, .ref o] (lw_out G o ov :: wA) (sw_QI G po (fun u => lw_out G o (ovf u) :: wAf u)) mc ms)
    (MR : sw_M l G yX10_setDamping wsX10_setDamping rm2 [.ref m, .int a1, .int a2] (lw_rm G m b0 b1 np th hh S P) (sw_QI G pr (fun u => lw_rm G m b0 b1 (npf u) (thf u) (hhf u) (Sf u) (Pf u))) 0 0) (hr2 : rm2.cells = 0 ∧ rm2.slots = 0 ∧ rm2.frames ≤ 11 ∧ rm2.locals ≤ 340)
    (hk : k + mc ≤ room_1.cells) (hn : n + ms ≤ room_1.slots) (hA : ∀ r u r' u', po r u → pr r' u' → thf u' = r ∧ (r = 0 → ovf u 0 = r'.toInt64))
    (kk : ∀ r u r' u', po r u → pr r' u' → SW G C (k + mc) (n + ms) (lw_rm G m b0 b1 (npf u') (thf u') (hhf u') (Sf u') (Pf u') ++ ((lw_out G o (ovf u) :: wAf u) ++ wR)) [(4, .int i), (3, .ref o), (2, .ref m), (1, .ref h), (0, .ref b)] 1582 []) : SW G C k n (lw_rm G m b0 b1 np th hh S P ++ ((lw_out G o ov :: wA) ++ wR)) [(4, .int i), (3, .ref o), (2, .ref m), (1, .ref h), (0, .ref b)] 240 [] := by
  refine sw_aload_n (pc := 240) F dL_law_240 rfl 3 rfl ?_
  refine sw_aload_n (pc := 241) F dL_law_241 rfl 4 rfl ?_
  refine sw_iload (pc := 242) F dL_law_242 0 rfl ?_
  refine sw_iconst (pc := 244) (v := 1) F dL_law_244 rfl ?_
  refine sw_iadd (pc := 245) F dL_law_245 ?_
  refine ly_sld (pc := 246) F hF.2.2.2.2.1 hF.2.2.2.2.2.1 hF.2.2.2.2.2.2 hi1 dL_law_246 ?_
  refine sw_eqt (v := .int a1) (by rw [e1]) ?_
  refine sw_aload_n (pc := 247) F dL_law_247 rfl 4 rfl ?_
  refine sw_iload (pc := 248) F dL_law_248 0 rfl ?_
  refine sw_iconst (pc := 250) (v := 2) F dL_law_250 rfl ?_
  refine sw_iadd (pc := 251) F dL_law_251 ?_
  refine ly_sld (pc := 252) F hF.2.2.2.2.1 hF.2.2.2.2.2.1 hF.2.2.2.2.2.2 hi2 dL_law_252 ?_
  refine sw_eqt (v := .int a2) (by rw [e2]) ?_
  refine sw_aload_n (pc := 253) F dL_law_253 rfl 1 rfl ?_
  refine ly_calliX (pc := 254) (k' := k + mc) (n' := n + ms) (P := lw_rm G m b0 b1 np th hh S P) (Q := lw_out G o ov :: wA) (R := wR) F (ly_runS (Ro := room_1) (na := 4) F hF.2.2.2.1 hF.2.1 hF.2.2.1 ML (List.range' (lw_rm G m b0 b1 np th hh S P).length (lw_out G o ov :: wA).length) (ly_map (lw_rm G m b0 b1 np th hh S P) (lw_out G o ov :: wA) wR) (ly_nd _ _) gL_law_L_setDamping rfl rfl rfl (by decide +kernel) ⟨Nat.le_of_ble_eq_true rfl, Nat.le_of_ble_eq_true rfl⟩ rfl rfl (Nat.le_of_ble_eq_true rfl) dL_law_254 hk hn) rfl rfl (fun r u hp => ?_)
  refine sw_istore (pc := 257) (lv' := [(5, .int r), (4, .int i), (3, .ref o), (2, .ref m), (1, .ref h), (0, .ref b)]) F hF.1 dL_law_257 (by decide) rfl ?_
  refine sw_aload_n (pc := 259) F dL_law_259 rfl 3 rfl ?_
  refine sw_aload_n (pc := 260) F dL_law_260 rfl 5 rfl ?_
  refine sw_iload (pc := 261) F dL_law_261 1 rfl ?_
  refine sw_iconst (pc := 263) (v := 1) F dL_law_263 rfl ?_
  refine sw_iadd (pc := 264) F dL_law_264 ?_
  refine ly_sld (pc := 265) F hF.2.2.2.2.1 hF.2.2.2.2.2.1 hF.2.2.2.2.2.2 hi1 dL_law_265 ?_
  refine sw_eqt (v := .int a1) (by rw [e1]) ?_
  refine sw_aload_n (pc := 266) F dL_law_266 rfl 5 rfl ?_
  refine sw_iload (pc := 267) F dL_law_267 1 rfl ?_
  refine sw_iconst (pc := 269) (v := 2) F dL_law_269 rfl ?_
  refine sw_iadd (pc := 270) F dL_law_270 ?_
  refine ly_sld (pc := 271) F hF.2.2.2.2.1 hF.2.2.2.2.2.1 hF.2.2.2.2.2.2 hi2 dL_law_271 ?_
  refine sw_eqt (v := .int a2) (by rw [e2]) ?_
  refine ly_calli (pc := 272) (k' := k + mc) (n' := n + ms) (P := []) (Q := lw_rm G m b0 b1 np th hh S P) (R := (lw_out G o (ovf u) :: wAf u) ++ wR) F (sw_runV (R := room_1) (q0 := 0) (na := 2) (ci := 10) F hF.2.1 hF.2.2.1 MR (List.range' 0 3) (ly_map [] (lw_rm G m b0 b1 np th hh S P) ((lw_out G o (ovf u) :: wAf u) ++ wR)) (ly_nd _ _) gL_law_X10_setDamping rfl hr2.1 hr2.2.1 (by decide +kernel) ⟨Nat.succ_le_succ hr2.2.2.1, lw_room hr2.2.2.2 (Nat.le_of_ble_eq_true rfl)⟩ rfl rfl rfl rfl rfl (Nat.le_of_ble_eq_true rfl) dL_law_272 hk hn) rfl rfl (fun r' u' hp' => ?_)
  refine sw_istore (pc := 275) (lv' := [(6, .int r'), (5, .int r), (4, .int i), (3, .ref o), (2, .ref m), (1, .ref h), (0, .ref b)]) F hF.1 dL_law_275 (by decide) rfl ?_
  refine sw_aload_n (pc := 277) F dL_law_277 rfl 4 rfl ?_
  refine ly_calli (pc := 278) (k' := k + mc) (n' := n + ms) (P := []) (Q := lw_rm G m b0 b1 (npf u') (thf u') (hhf u') (Sf u') (Pf u')) (R := (lw_out G o (ovf u) :: wAf u) ++ wR) F (sw_runV (R := room_1) (q0 := 0) (na := 0) (ci := 10) F hF.2.1 hF.2.2.1 (k_X10_thrown l G m b0 b1 (npf u') (thf u') (hhf u') (Sf u') (Pf u')) (List.range' 0 3) (ly_map [] (lw_rm G m b0 b1 (npf u') (thf u') (hhf u') (Sf u') (Pf u')) ((lw_out G o (ovf u) :: wAf u) ++ wR)) (ly_nd _ _) gL_law_X10_thrown rfl rfl rfl (by decide +kernel) ⟨Nat.le_of_ble_eq_true rfl, Nat.le_of_ble_eq_true rfl⟩ rfl rfl rfl rfl rfl (Nat.le_of_ble_eq_true rfl) dL_law_278 hk hn) rfl rfl (fun t u9 ht => ?_)
  have ht' : t = thf u' := ht
  obtain ⟨hA1, hA2⟩ := hA r u r' u' hp hp'
  rw [hA1] at ht'
  subst ht'
  refine sw_iload (pc := 281) F dL_law_281 1 rfl ?_
  refine sw_icmp_eq (pc := 283) (tgt := 288) F dL_law_283 (by decide) (fun _ => ?_) (fun z => absurd rfl z)
  refine sw_iload (pc := 288) F dL_law_288 1 rfl ?_
  refine sw_if_ne (pc := 290) (tgt := 305) F dL_law_290 (by decide) (fun _ => ?_) (fun z => ?_)
  · skip
    refine sw_lvs (is := [2, 3, 4, 5, 6]) (lv' := [(4, .int i), (3, .ref o), (2, .ref m), (1, .ref h), (0, .ref b)]) rfl ?_
    refine sw_goto (pc := 305) (tgt := 1582) F dL_law_305 (by decide) ?_
    exact kk t u r' u' hp hp'
  · skip
    refine sw_aload_n (pc := 293) F dL_law_293 rfl 3 rfl ?_
    refine sw_iconst (pc := 294) (v := 0) F dL_law_294 rfl ?_
    refine sw_lald (pc := 295) F 3 rfl (sw_in rfl) dL_law_295 ?_
    refine sw_iload (pc := 296) F dL_law_296 0 rfl ?_
    refine sw_i2l (pc := 298) F dL_law_298 rfl ?_
    refine sw_lcmp_eq (pc := 299) (tgt := 305) F dL_law_299 dL_law_300 (by decide) (fun _ => ?_) (fun y => absurd (hA2 z) y)
    refine sw_lvs (is := [2, 3, 4, 5, 6]) (lv' := [(4, .int i), (3, .ref o), (2, .ref m), (1, .ref h), (0, .ref b)]) rfl ?_
    refine sw_goto (pc := 305) (tgt := 1582) F dL_law_305 (by decide) ?_
    exact kk t u r' u' hp hp'
set_option maxHeartbeats 4000000 in
set_option maxRecDepth 100000 in
theorem law_c2 {G : sw_E} {C : sw_C} {k n : Nat} {l : Launch} {b L : Nat} {xs : Nat → Int32} (F : sw_H G C cL_law RL wsL_law) (hF : LF G C l b L xs) {h m o : Nat} {i : Int32} {a1 : Int32} (hi1 : vp_in (i + 1) L) (e1 : xs (i + 1).toNatClampNeg = a1) {b0 b1 : Nat} {np th : Int32} {hh : Int64} {S P : Nat → Int64} {ov : Nat → Int64} {wA wR : va_W} {mc ms : Nat} {S1 S2 : Type} {po : Int32 → S1 → Prop} {ovf : S1 → Nat → Int64} {wAf : S1 → va_W} {pr : Int32 → S2 → Prop} {npf thf : S2 → Int32} {hhf : S2 → Int64} {Sf Pf : S2 → Nat → Int64} {rm2 : Room}
    (ML : sy_M l G yL_setMode wsL_setMode ({ frames := 10, cells := mc, slots := ms, locals := 340 } : Room) [.ref h, .int a1, .ref o] (lw_out G o ov :: wA) (sw_QI G po (fun u => lw_out G o (ovf u) :: wAf u)) mc ms)
    (MR : sw_M l G yX10_setMode wsX10_setMode rm2 [.ref m, .int a1] (lw_rm G m b0 b1 np th hh S P) (sw_QI G pr (fun u => lw_rm G m b0 b1 (npf u) (thf u) (hhf u) (Sf u) (Pf u))) 0 0) (hr2 : rm2.cells = 0 ∧ rm2.slots = 0 ∧ rm2.frames ≤ 11 ∧ rm2.locals ≤ 340)
    (hk : k + mc ≤ room_1.cells) (hn : n + ms ≤ room_1.slots) (hA : ∀ r u r' u', po r u → pr r' u' → thf u' = r ∧ (r = 0 → ovf u 0 = r'.toInt64))
    (kk : ∀ r u r' u', po r u → pr r' u' → SW G C (k + mc) (n + ms) (lw_rm G m b0 b1 (npf u') (thf u') (hhf u') (Sf u') (Pf u') ++ ((lw_out G o (ovf u) :: wAf u) ++ wR)) [(4, .int i), (3, .ref o), (2, .ref m), (1, .ref h), (0, .ref b)] 1582 []) : SW G C k n (lw_rm G m b0 b1 np th hh S P ++ ((lw_out G o ov :: wA) ++ wR)) [(4, .int i), (3, .ref o), (2, .ref m), (1, .ref h), (0, .ref b)] 308 [] := by
  refine sw_aload_n (pc := 308) F dL_law_308 rfl 3 rfl ?_
  refine sw_aload_n (pc := 309) F dL_law_309 rfl 4 rfl ?_
  refine sw_iload (pc := 310) F dL_law_310 0 rfl ?_
  refine sw_iconst (pc := 312) (v := 1) F dL_law_312 rfl ?_
  refine sw_iadd (pc := 313) F dL_law_313 ?_
  refine ly_sld (pc := 314) F hF.2.2.2.2.1 hF.2.2.2.2.2.1 hF.2.2.2.2.2.2 hi1 dL_law_314 ?_
  refine sw_eqt (v := .int a1) (by rw [e1]) ?_
  refine sw_aload_n (pc := 315) F dL_law_315 rfl 1 rfl ?_
  refine ly_calliX (pc := 316) (k' := k + mc) (n' := n + ms) (P := lw_rm G m b0 b1 np th hh S P) (Q := lw_out G o ov :: wA) (R := wR) F (ly_runS (Ro := room_1) (na := 3) F hF.2.2.2.1 hF.2.1 hF.2.2.1 ML (List.range' (lw_rm G m b0 b1 np th hh S P).length (lw_out G o ov :: wA).length) (ly_map (lw_rm G m b0 b1 np th hh S P) (lw_out G o ov :: wA) wR) (ly_nd _ _) gL_law_L_setMode rfl rfl rfl (by decide +kernel) ⟨Nat.le_of_ble_eq_true rfl, Nat.le_of_ble_eq_true rfl⟩ rfl rfl (Nat.le_of_ble_eq_true rfl) dL_law_316 hk hn) rfl rfl (fun r u hp => ?_)
  refine sw_istore (pc := 319) (lv' := [(5, .int r), (4, .int i), (3, .ref o), (2, .ref m), (1, .ref h), (0, .ref b)]) F hF.1 dL_law_319 (by decide) rfl ?_
  refine sw_aload_n (pc := 321) F dL_law_321 rfl 3 rfl ?_
  refine sw_aload_n (pc := 322) F dL_law_322 rfl 5 rfl ?_
  refine sw_iload (pc := 323) F dL_law_323 1 rfl ?_
  refine sw_iconst (pc := 325) (v := 1) F dL_law_325 rfl ?_
  refine sw_iadd (pc := 326) F dL_law_326 ?_
  refine ly_sld (pc := 327) F hF.2.2.2.2.1 hF.2.2.2.2.2.1 hF.2.2.2.2.2.2 hi1 dL_law_327 ?_
  refine sw_eqt (v := .int a1) (by rw [e1]) ?_
  refine ly_calli (pc := 328) (k' := k + mc) (n' := n + ms) (P := []) (Q := lw_rm G m b0 b1 np th hh S P) (R := (lw_out G o (ovf u) :: wAf u) ++ wR) F (sw_runV (R := room_1) (q0 := 0) (na := 1) (ci := 10) F hF.2.1 hF.2.2.1 MR (List.range' 0 3) (ly_map [] (lw_rm G m b0 b1 np th hh S P) ((lw_out G o (ovf u) :: wAf u) ++ wR)) (ly_nd _ _) gL_law_X10_setMode rfl hr2.1 hr2.2.1 (by decide +kernel) ⟨Nat.succ_le_succ hr2.2.2.1, lw_room hr2.2.2.2 (Nat.le_of_ble_eq_true rfl)⟩ rfl rfl rfl rfl rfl (Nat.le_of_ble_eq_true rfl) dL_law_328 hk hn) rfl rfl (fun r' u' hp' => ?_)
  refine sw_istore (pc := 331) (lv' := [(6, .int r'), (5, .int r), (4, .int i), (3, .ref o), (2, .ref m), (1, .ref h), (0, .ref b)]) F hF.1 dL_law_331 (by decide) rfl ?_
  refine sw_aload_n (pc := 333) F dL_law_333 rfl 4 rfl ?_
  refine ly_calli (pc := 334) (k' := k + mc) (n' := n + ms) (P := []) (Q := lw_rm G m b0 b1 (npf u') (thf u') (hhf u') (Sf u') (Pf u')) (R := (lw_out G o (ovf u) :: wAf u) ++ wR) F (sw_runV (R := room_1) (q0 := 0) (na := 0) (ci := 10) F hF.2.1 hF.2.2.1 (k_X10_thrown l G m b0 b1 (npf u') (thf u') (hhf u') (Sf u') (Pf u')) (List.range' 0 3) (ly_map [] (lw_rm G m b0 b1 (npf u') (thf u') (hhf u') (Sf u') (Pf u')) ((lw_out G o (ovf u) :: wAf u) ++ wR)) (ly_nd _ _) gL_law_X10_thrown rfl rfl rfl (by decide +kernel) ⟨Nat.le_of_ble_eq_true rfl, Nat.le_of_ble_eq_true rfl⟩ rfl rfl rfl rfl rfl (Nat.le_of_ble_eq_true rfl) dL_law_334 hk hn) rfl rfl (fun t u9 ht => ?_)
  have ht' : t = thf u' := ht
  obtain ⟨hA1, hA2⟩ := hA r u r' u' hp hp'
  rw [hA1] at ht'
  subst ht'
  refine sw_iload (pc := 337) F dL_law_337 1 rfl ?_
  refine sw_icmp_eq (pc := 339) (tgt := 344) F dL_law_339 (by decide) (fun _ => ?_) (fun z => absurd rfl z)
  refine sw_iload (pc := 344) F dL_law_344 1 rfl ?_
  refine sw_if_ne (pc := 346) (tgt := 361) F dL_law_346 (by decide) (fun _ => ?_) (fun z => ?_)
  · skip
    refine sw_lvs (is := [2, 3, 4, 5, 6]) (lv' := [(4, .int i), (3, .ref o), (2, .ref m), (1, .ref h), (0, .ref b)]) rfl ?_
    refine sw_goto (pc := 361) (tgt := 1582) F dL_law_361 (by decide) ?_
    exact kk t u r' u' hp hp'
  · skip
    refine sw_aload_n (pc := 349) F dL_law_349 rfl 3 rfl ?_
    refine sw_iconst (pc := 350) (v := 0) F dL_law_350 rfl ?_
    refine sw_lald (pc := 351) F 3 rfl (sw_in rfl) dL_law_351 ?_
    refine sw_iload (pc := 352) F dL_law_352 0 rfl ?_
    refine sw_i2l (pc := 354) F dL_law_354 rfl ?_
    refine sw_lcmp_eq (pc := 355) (tgt := 361) F dL_law_355 dL_law_356 (by decide) (fun _ => ?_) (fun y => absurd (hA2 z) y)
    refine sw_lvs (is := [2, 3, 4, 5, 6]) (lv' := [(4, .int i), (3, .ref o), (2, .ref m), (1, .ref h), (0, .ref b)]) rfl ?_
    refine sw_goto (pc := 361) (tgt := 1582) F dL_law_361 (by decide) ?_
    exact kk t u r' u' hp hp'
set_option maxHeartbeats 4000000 in
set_option maxRecDepth 100000 in
theorem law_c3 {G : sw_E} {C : sw_C} {k n : Nat} {l : Launch} {b L : Nat} {xs : Nat → Int32} (F : sw_H G C cL_law RL wsL_law) (hF : LF G C l b L xs) {h m o : Nat} {i : Int32} {a1 a2 : Int32} (hi1 : vp_in (i + 1) L) (e1 : xs (i + 1).toNatClampNeg = a1) (hi2 : vp_in (i + 2) L) (e2 : xs (i + 2).toNatClampNeg = a2) {b0 b1 : Nat} {np th : Int32} {hh : Int64} {S P : Nat → Int64} {ov : Nat → Int64} {wA wR : va_W} {mc ms : Nat} {S1 S2 : Type} {po : Int32 → S1 → Prop} {ovf : S1 → Nat → Int64} {wAf : S1 → va_W} {pr : Int32 → S2 → Prop} {npf thf : S2 → Int32} {hhf : S2 → Int64} {Sf Pf : S2 → Nat → Int64} {rm2 : Room}
    (ML : sy_M l G yL_setDensity wsL_setDensity ({ frames := 10, cells := mc, slots := ms, locals := 340 } : Room) [.ref h, .int a1, .int a2, .ref o] (lw_out G o ov :: wA) (sw_QI G po (fun u => lw_out G o (ovf u) :: wAf u)) mc ms)
    (MR : sw_M l G yX10_setDensity wsX10_setDensity rm2 [.ref m, .int a1, .int a2] (lw_rm G m b0 b1 np th hh S P) (sw_QI G pr (fun u => lw_rm G m b0 b1 (npf u) (thf u) (hhf u) (Sf u) (Pf u))) 0 0) (hr2 : rm2.cells = 0 ∧ rm2.slots = 0 ∧ rm2.frames ≤ 11 ∧ rm2.locals ≤ 340)
    (hk : k + mc ≤ room_1.cells) (hn : n + ms ≤ room_1.slots) (hA : ∀ r u r' u', po r u → pr r' u' → thf u' = r ∧ (r = 0 → ovf u 0 = r'.toInt64))
    (kk : ∀ r u r' u', po r u → pr r' u' → SW G C (k + mc) (n + ms) (lw_rm G m b0 b1 (npf u') (thf u') (hhf u') (Sf u') (Pf u') ++ ((lw_out G o (ovf u) :: wAf u) ++ wR)) [(4, .int i), (3, .ref o), (2, .ref m), (1, .ref h), (0, .ref b)] 1582 []) : SW G C k n (lw_rm G m b0 b1 np th hh S P ++ ((lw_out G o ov :: wA) ++ wR)) [(4, .int i), (3, .ref o), (2, .ref m), (1, .ref h), (0, .ref b)] 364 [] := by
  refine sw_aload_n (pc := 364) F dL_law_364 rfl 3 rfl ?_
  refine sw_aload_n (pc := 365) F dL_law_365 rfl 4 rfl ?_
  refine sw_iload (pc := 366) F dL_law_366 0 rfl ?_
  refine sw_iconst (pc := 368) (v := 1) F dL_law_368 rfl ?_
  refine sw_iadd (pc := 369) F dL_law_369 ?_
  refine ly_sld (pc := 370) F hF.2.2.2.2.1 hF.2.2.2.2.2.1 hF.2.2.2.2.2.2 hi1 dL_law_370 ?_
  refine sw_eqt (v := .int a1) (by rw [e1]) ?_
  refine sw_aload_n (pc := 371) F dL_law_371 rfl 4 rfl ?_
  refine sw_iload (pc := 372) F dL_law_372 0 rfl ?_
  refine sw_iconst (pc := 374) (v := 2) F dL_law_374 rfl ?_
  refine sw_iadd (pc := 375) F dL_law_375 ?_
  refine ly_sld (pc := 376) F hF.2.2.2.2.1 hF.2.2.2.2.2.1 hF.2.2.2.2.2.2 hi2 dL_law_376 ?_
  refine sw_eqt (v := .int a2) (by rw [e2]) ?_
  refine sw_aload_n (pc := 377) F dL_law_377 rfl 1 rfl ?_
  refine ly_calliX (pc := 378) (k' := k + mc) (n' := n + ms) (P := lw_rm G m b0 b1 np th hh S P) (Q := lw_out G o ov :: wA) (R := wR) F (ly_runS (Ro := room_1) (na := 4) F hF.2.2.2.1 hF.2.1 hF.2.2.1 ML (List.range' (lw_rm G m b0 b1 np th hh S P).length (lw_out G o ov :: wA).length) (ly_map (lw_rm G m b0 b1 np th hh S P) (lw_out G o ov :: wA) wR) (ly_nd _ _) gL_law_L_setDensity rfl rfl rfl (by decide +kernel) ⟨Nat.le_of_ble_eq_true rfl, Nat.le_of_ble_eq_true rfl⟩ rfl rfl (Nat.le_of_ble_eq_true rfl) dL_law_378 hk hn) rfl rfl (fun r u hp => ?_)
  refine sw_istore (pc := 381) (lv' := [(5, .int r), (4, .int i), (3, .ref o), (2, .ref m), (1, .ref h), (0, .ref b)]) F hF.1 dL_law_381 (by decide) rfl ?_
  refine sw_aload_n (pc := 383) F dL_law_383 rfl 3 rfl ?_
  refine sw_aload_n (pc := 384) F dL_law_384 rfl 5 rfl ?_
  refine sw_iload (pc := 385) F dL_law_385 1 rfl ?_
  refine sw_iconst (pc := 387) (v := 1) F dL_law_387 rfl ?_
  refine sw_iadd (pc := 388) F dL_law_388 ?_
  refine ly_sld (pc := 389) F hF.2.2.2.2.1 hF.2.2.2.2.2.1 hF.2.2.2.2.2.2 hi1 dL_law_389 ?_
  refine sw_eqt (v := .int a1) (by rw [e1]) ?_
  refine sw_aload_n (pc := 390) F dL_law_390 rfl 5 rfl ?_
  refine sw_iload (pc := 391) F dL_law_391 1 rfl ?_
  refine sw_iconst (pc := 393) (v := 2) F dL_law_393 rfl ?_
  refine sw_iadd (pc := 394) F dL_law_394 ?_
  refine ly_sld (pc := 395) F hF.2.2.2.2.1 hF.2.2.2.2.2.1 hF.2.2.2.2.2.2 hi2 dL_law_395 ?_
  refine sw_eqt (v := .int a2) (by rw [e2]) ?_
  refine ly_calli (pc := 396) (k' := k + mc) (n' := n + ms) (P := []) (Q := lw_rm G m b0 b1 np th hh S P) (R := (lw_out G o (ovf u) :: wAf u) ++ wR) F (sw_runV (R := room_1) (q0 := 0) (na := 2) (ci := 10) F hF.2.1 hF.2.2.1 MR (List.range' 0 3) (ly_map [] (lw_rm G m b0 b1 np th hh S P) ((lw_out G o (ovf u) :: wAf u) ++ wR)) (ly_nd _ _) gL_law_X10_setDensity rfl hr2.1 hr2.2.1 (by decide +kernel) ⟨Nat.succ_le_succ hr2.2.2.1, lw_room hr2.2.2.2 (Nat.le_of_ble_eq_true rfl)⟩ rfl rfl rfl rfl rfl (Nat.le_of_ble_eq_true rfl) dL_law_396 hk hn) rfl rfl (fun r' u' hp' => ?_)
  refine sw_istore (pc := 399) (lv' := [(6, .int r'), (5, .int r), (4, .int i), (3, .ref o), (2, .ref m), (1, .ref h), (0, .ref b)]) F hF.1 dL_law_399 (by decide) rfl ?_
  refine sw_aload_n (pc := 401) F dL_law_401 rfl 4 rfl ?_
  refine ly_calli (pc := 402) (k' := k + mc) (n' := n + ms) (P := []) (Q := lw_rm G m b0 b1 (npf u') (thf u') (hhf u') (Sf u') (Pf u')) (R := (lw_out G o (ovf u) :: wAf u) ++ wR) F (sw_runV (R := room_1) (q0 := 0) (na := 0) (ci := 10) F hF.2.1 hF.2.2.1 (k_X10_thrown l G m b0 b1 (npf u') (thf u') (hhf u') (Sf u') (Pf u')) (List.range' 0 3) (ly_map [] (lw_rm G m b0 b1 (npf u') (thf u') (hhf u') (Sf u') (Pf u')) ((lw_out G o (ovf u) :: wAf u) ++ wR)) (ly_nd _ _) gL_law_X10_thrown rfl rfl rfl (by decide +kernel) ⟨Nat.le_of_ble_eq_true rfl, Nat.le_of_ble_eq_true rfl⟩ rfl rfl rfl rfl rfl (Nat.le_of_ble_eq_true rfl) dL_law_402 hk hn) rfl rfl (fun t u9 ht => ?_)
  have ht' : t = thf u' := ht
  obtain ⟨hA1, hA2⟩ := hA r u r' u' hp hp'
  rw [hA1] at ht'
  subst ht'
  refine sw_iload (pc := 405) F dL_law_405 1 rfl ?_
  refine sw_icmp_eq (pc := 407) (tgt := 412) F dL_law_407 (by decide) (fun _ => ?_) (fun z => absurd rfl z)
  refine sw_iload (pc := 412) F dL_law_412 1 rfl ?_
  refine sw_if_ne (pc := 414) (tgt := 429) F dL_law_414 (by decide) (fun _ => ?_) (fun z => ?_)
  · skip
    refine sw_lvs (is := [2, 3, 4, 5, 6]) (lv' := [(4, .int i), (3, .ref o), (2, .ref m), (1, .ref h), (0, .ref b)]) rfl ?_
    refine sw_goto (pc := 429) (tgt := 1582) F dL_law_429 (by decide) ?_
    exact kk t u r' u' hp hp'
  · skip
    refine sw_aload_n (pc := 417) F dL_law_417 rfl 3 rfl ?_
    refine sw_iconst (pc := 418) (v := 0) F dL_law_418 rfl ?_
    refine sw_lald (pc := 419) F 3 rfl (sw_in rfl) dL_law_419 ?_
    refine sw_iload (pc := 420) F dL_law_420 0 rfl ?_
    refine sw_i2l (pc := 422) F dL_law_422 rfl ?_
    refine sw_lcmp_eq (pc := 423) (tgt := 429) F dL_law_423 dL_law_424 (by decide) (fun _ => ?_) (fun y => absurd (hA2 z) y)
    refine sw_lvs (is := [2, 3, 4, 5, 6]) (lv' := [(4, .int i), (3, .ref o), (2, .ref m), (1, .ref h), (0, .ref b)]) rfl ?_
    refine sw_goto (pc := 429) (tgt := 1582) F dL_law_429 (by decide) ?_
    exact kk t u r' u' hp hp'
set_option maxHeartbeats 4000000 in
set_option maxRecDepth 100000 in
theorem law_c4 {G : sw_E} {C : sw_C} {k n : Nat} {l : Launch} {b L : Nat} {xs : Nat → Int32} (F : sw_H G C cL_law RL wsL_law) (hF : LF G C l b L xs) {h m o : Nat} {i : Int32} {a1 a2 : Int32} (hi1 : vp_in (i + 1) L) (e1 : xs (i + 1).toNatClampNeg = a1) (hi2 : vp_in (i + 2) L) (e2 : xs (i + 2).toNatClampNeg = a2) {b0 b1 : Nat} {np th : Int32} {hh : Int64} {S P : Nat → Int64} {ov : Nat → Int64} {wA wR : va_W} {mc ms : Nat} {S1 S2 : Type} {po : Int32 → S1 → Prop} {ovf : S1 → Nat → Int64} {wAf : S1 → va_W} {pr : Int32 → S2 → Prop} {npf thf : S2 → Int32} {hhf : S2 → Int64} {Sf Pf : S2 → Nat → Int64} {rm2 : Room}
    (ML : sy_M l G yL_setFactor wsL_setFactor ({ frames := 10, cells := mc, slots := ms, locals := 340 } : Room) [.ref h, .int a1, .int a2, .ref o] (lw_out G o ov :: wA) (sw_QI G po (fun u => lw_out G o (ovf u) :: wAf u)) mc ms)
    (MR : sw_M l G yX10_setFactor wsX10_setFactor rm2 [.ref m, .int a1, .int a2] (lw_rm G m b0 b1 np th hh S P) (sw_QI G pr (fun u => lw_rm G m b0 b1 (npf u) (thf u) (hhf u) (Sf u) (Pf u))) 0 0) (hr2 : rm2.cells = 0 ∧ rm2.slots = 0 ∧ rm2.frames ≤ 11 ∧ rm2.locals ≤ 340)
    (hk : k + mc ≤ room_1.cells) (hn : n + ms ≤ room_1.slots) (hA : ∀ r u r' u', po r u → pr r' u' → thf u' = r ∧ (r = 0 → ovf u 0 = r'.toInt64))
    (kk : ∀ r u r' u', po r u → pr r' u' → SW G C (k + mc) (n + ms) (lw_rm G m b0 b1 (npf u') (thf u') (hhf u') (Sf u') (Pf u') ++ ((lw_out G o (ovf u) :: wAf u) ++ wR)) [(4, .int i), (3, .ref o), (2, .ref m), (1, .ref h), (0, .ref b)] 1582 []) : SW G C k n (lw_rm G m b0 b1 np th hh S P ++ ((lw_out G o ov :: wA) ++ wR)) [(4, .int i), (3, .ref o), (2, .ref m), (1, .ref h), (0, .ref b)] 432 [] := by
  refine sw_aload_n (pc := 432) F dL_law_432 rfl 3 rfl ?_
  refine sw_aload_n (pc := 433) F dL_law_433 rfl 4 rfl ?_
  refine sw_iload (pc := 434) F dL_law_434 0 rfl ?_
  refine sw_iconst (pc := 436) (v := 1) F dL_law_436 rfl ?_
  refine sw_iadd (pc := 437) F dL_law_437 ?_
  refine ly_sld (pc := 438) F hF.2.2.2.2.1 hF.2.2.2.2.2.1 hF.2.2.2.2.2.2 hi1 dL_law_438 ?_
  refine sw_eqt (v := .int a1) (by rw [e1]) ?_
  refine sw_aload_n (pc := 439) F dL_law_439 rfl 4 rfl ?_
  refine sw_iload (pc := 440) F dL_law_440 0 rfl ?_
  refine sw_iconst (pc := 442) (v := 2) F dL_law_442 rfl ?_
  refine sw_iadd (pc := 443) F dL_law_443 ?_
  refine ly_sld (pc := 444) F hF.2.2.2.2.1 hF.2.2.2.2.2.1 hF.2.2.2.2.2.2 hi2 dL_law_444 ?_
  refine sw_eqt (v := .int a2) (by rw [e2]) ?_
  refine sw_aload_n (pc := 445) F dL_law_445 rfl 1 rfl ?_
  refine ly_calliX (pc := 446) (k' := k + mc) (n' := n + ms) (P := lw_rm G m b0 b1 np th hh S P) (Q := lw_out G o ov :: wA) (R := wR) F (ly_runS (Ro := room_1) (na := 4) F hF.2.2.2.1 hF.2.1 hF.2.2.1 ML (List.range' (lw_rm G m b0 b1 np th hh S P).length (lw_out G o ov :: wA).length) (ly_map (lw_rm G m b0 b1 np th hh S P) (lw_out G o ov :: wA) wR) (ly_nd _ _) gL_law_L_setFactor rfl rfl rfl (by decide +kernel) ⟨Nat.le_of_ble_eq_true rfl, Nat.le_of_ble_eq_true rfl⟩ rfl rfl (Nat.le_of_ble_eq_true rfl) dL_law_446 hk hn) rfl rfl (fun r u hp => ?_)
  refine sw_istore (pc := 449) (lv' := [(5, .int r), (4, .int i), (3, .ref o), (2, .ref m), (1, .ref h), (0, .ref b)]) F hF.1 dL_law_449 (by decide) rfl ?_
  refine sw_aload_n (pc := 451) F dL_law_451 rfl 3 rfl ?_
  refine sw_aload_n (pc := 452) F dL_law_452 rfl 5 rfl ?_
  refine sw_iload (pc := 453) F dL_law_453 1 rfl ?_
  refine sw_iconst (pc := 455) (v := 1) F dL_law_455 rfl ?_
  refine sw_iadd (pc := 456) F dL_law_456 ?_
  refine ly_sld (pc := 457) F hF.2.2.2.2.1 hF.2.2.2.2.2.1 hF.2.2.2.2.2.2 hi1 dL_law_457 ?_
  refine sw_eqt (v := .int a1) (by rw [e1]) ?_
  refine sw_aload_n (pc := 458) F dL_law_458 rfl 5 rfl ?_
  refine sw_iload (pc := 459) F dL_law_459 1 rfl ?_
  refine sw_iconst (pc := 461) (v := 2) F dL_law_461 rfl ?_
  refine sw_iadd (pc := 462) F dL_law_462 ?_
  refine ly_sld (pc := 463) F hF.2.2.2.2.1 hF.2.2.2.2.2.1 hF.2.2.2.2.2.2 hi2 dL_law_463 ?_
  refine sw_eqt (v := .int a2) (by rw [e2]) ?_
  refine ly_calli (pc := 464) (k' := k + mc) (n' := n + ms) (P := []) (Q := lw_rm G m b0 b1 np th hh S P) (R := (lw_out G o (ovf u) :: wAf u) ++ wR) F (sw_runV (R := room_1) (q0 := 0) (na := 2) (ci := 10) F hF.2.1 hF.2.2.1 MR (List.range' 0 3) (ly_map [] (lw_rm G m b0 b1 np th hh S P) ((lw_out G o (ovf u) :: wAf u) ++ wR)) (ly_nd _ _) gL_law_X10_setFactor rfl hr2.1 hr2.2.1 (by decide +kernel) ⟨Nat.succ_le_succ hr2.2.2.1, lw_room hr2.2.2.2 (Nat.le_of_ble_eq_true rfl)⟩ rfl rfl rfl rfl rfl (Nat.le_of_ble_eq_true rfl) dL_law_464 hk hn) rfl rfl (fun r' u' hp' => ?_)
  refine sw_istore (pc := 467) (lv' := [(6, .int r'), (5, .int r), (4, .int i), (3, .ref o), (2, .ref m), (1, .ref h), (0, .ref b)]) F hF.1 dL_law_467 (by decide) rfl ?_
  refine sw_aload_n (pc := 469) F dL_law_469 rfl 4 rfl ?_
  refine ly_calli (pc := 470) (k' := k + mc) (n' := n + ms) (P := []) (Q := lw_rm G m b0 b1 (npf u') (thf u') (hhf u') (Sf u') (Pf u')) (R := (lw_out G o (ovf u) :: wAf u) ++ wR) F (sw_runV (R := room_1) (q0 := 0) (na := 0) (ci := 10) F hF.2.1 hF.2.2.1 (k_X10_thrown l G m b0 b1 (npf u') (thf u') (hhf u') (Sf u') (Pf u')) (List.range' 0 3) (ly_map [] (lw_rm G m b0 b1 (npf u') (thf u') (hhf u') (Sf u') (Pf u')) ((lw_out G o (ovf u) :: wAf u) ++ wR)) (ly_nd _ _) gL_law_X10_thrown rfl rfl rfl (by decide +kernel) ⟨Nat.le_of_ble_eq_true rfl, Nat.le_of_ble_eq_true rfl⟩ rfl rfl rfl rfl rfl (Nat.le_of_ble_eq_true rfl) dL_law_470 hk hn) rfl rfl (fun t u9 ht => ?_)
  have ht' : t = thf u' := ht
  obtain ⟨hA1, hA2⟩ := hA r u r' u' hp hp'
  rw [hA1] at ht'
  subst ht'
  refine sw_iload (pc := 473) F dL_law_473 1 rfl ?_
  refine sw_icmp_eq (pc := 475) (tgt := 480) F dL_law_475 (by decide) (fun _ => ?_) (fun z => absurd rfl z)
  refine sw_iload (pc := 480) F dL_law_480 1 rfl ?_
  refine sw_if_ne (pc := 482) (tgt := 497) F dL_law_482 (by decide) (fun _ => ?_) (fun z => ?_)
  · skip
    refine sw_lvs (is := [2, 3, 4, 5, 6]) (lv' := [(4, .int i), (3, .ref o), (2, .ref m), (1, .ref h), (0, .ref b)]) rfl ?_
    refine sw_goto (pc := 497) (tgt := 1582) F dL_law_497 (by decide) ?_
    exact kk t u r' u' hp hp'
  · skip
    refine sw_aload_n (pc := 485) F dL_law_485 rfl 3 rfl ?_
    refine sw_iconst (pc := 486) (v := 0) F dL_law_486 rfl ?_
    refine sw_lald (pc := 487) F 3 rfl (sw_in rfl) dL_law_487 ?_
    refine sw_iload (pc := 488) F dL_law_488 0 rfl ?_
    refine sw_i2l (pc := 490) F dL_law_490 rfl ?_
    refine sw_lcmp_eq (pc := 491) (tgt := 497) F dL_law_491 dL_law_492 (by decide) (fun _ => ?_) (fun y => absurd (hA2 z) y)
    refine sw_lvs (is := [2, 3, 4, 5, 6]) (lv' := [(4, .int i), (3, .ref o), (2, .ref m), (1, .ref h), (0, .ref b)]) rfl ?_
    refine sw_goto (pc := 497) (tgt := 1582) F dL_law_497 (by decide) ?_
    exact kk t u r' u' hp hp'
set_option maxHeartbeats 4000000 in
set_option maxRecDepth 100000 in
theorem law_c5 {G : sw_E} {C : sw_C} {k n : Nat} {l : Launch} {b L : Nat} {xs : Nat → Int32} (F : sw_H G C cL_law RL wsL_law) (hF : LF G C l b L xs) {h m o : Nat} {i : Int32} {a1 : Int32} (hi1 : vp_in (i + 1) L) (e1 : xs (i + 1).toNatClampNeg = a1) {b0 b1 : Nat} {np th : Int32} {hh : Int64} {S P : Nat → Int64} {ov : Nat → Int64} {wA wR : va_W} {mc ms : Nat} {S1 S2 : Type} {po : Int32 → S1 → Prop} {ovf : S1 → Nat → Int64} {wAf : S1 → va_W} {pr : Int32 → S2 → Prop} {npf thf : S2 → Int32} {hhf : S2 → Int64} {Sf Pf : S2 → Nat → Int64} {rm2 : Room}
    (ML : sy_M l G yL_setMeter wsL_setMeter ({ frames := 10, cells := mc, slots := ms, locals := 340 } : Room) [.ref h, .int a1, .ref o] (lw_out G o ov :: wA) (sw_QI G po (fun u => lw_out G o (ovf u) :: wAf u)) mc ms)
    (MR : sw_M l G yX10_setMeter wsX10_setMeter rm2 [.ref m, .int a1] (lw_rm G m b0 b1 np th hh S P) (sw_QI G pr (fun u => lw_rm G m b0 b1 (npf u) (thf u) (hhf u) (Sf u) (Pf u))) 0 0) (hr2 : rm2.cells = 0 ∧ rm2.slots = 0 ∧ rm2.frames ≤ 11 ∧ rm2.locals ≤ 340)
    (hk : k + mc ≤ room_1.cells) (hn : n + ms ≤ room_1.slots) (hA : ∀ r u r' u', po r u → pr r' u' → thf u' = r ∧ (r = 0 → ovf u 0 = r'.toInt64))
    (kk : ∀ r u r' u', po r u → pr r' u' → SW G C (k + mc) (n + ms) (lw_rm G m b0 b1 (npf u') (thf u') (hhf u') (Sf u') (Pf u') ++ ((lw_out G o (ovf u) :: wAf u) ++ wR)) [(4, .int i), (3, .ref o), (2, .ref m), (1, .ref h), (0, .ref b)] 1582 []) : SW G C k n (lw_rm G m b0 b1 np th hh S P ++ ((lw_out G o ov :: wA) ++ wR)) [(4, .int i), (3, .ref o), (2, .ref m), (1, .ref h), (0, .ref b)] 500 [] := by
  refine sw_aload_n (pc := 500) F dL_law_500 rfl 3 rfl ?_
  refine sw_aload_n (pc := 501) F dL_law_501 rfl 4 rfl ?_
  refine sw_iload (pc := 502) F dL_law_502 0 rfl ?_
  refine sw_iconst (pc := 504) (v := 1) F dL_law_504 rfl ?_
  refine sw_iadd (pc := 505) F dL_law_505 ?_
  refine ly_sld (pc := 506) F hF.2.2.2.2.1 hF.2.2.2.2.2.1 hF.2.2.2.2.2.2 hi1 dL_law_506 ?_
  refine sw_eqt (v := .int a1) (by rw [e1]) ?_
  refine sw_aload_n (pc := 507) F dL_law_507 rfl 1 rfl ?_
  refine ly_calliX (pc := 508) (k' := k + mc) (n' := n + ms) (P := lw_rm G m b0 b1 np th hh S P) (Q := lw_out G o ov :: wA) (R := wR) F (ly_runS (Ro := room_1) (na := 3) F hF.2.2.2.1 hF.2.1 hF.2.2.1 ML (List.range' (lw_rm G m b0 b1 np th hh S P).length (lw_out G o ov :: wA).length) (ly_map (lw_rm G m b0 b1 np th hh S P) (lw_out G o ov :: wA) wR) (ly_nd _ _) gL_law_L_setMeter rfl rfl rfl (by decide +kernel) ⟨Nat.le_of_ble_eq_true rfl, Nat.le_of_ble_eq_true rfl⟩ rfl rfl (Nat.le_of_ble_eq_true rfl) dL_law_508 hk hn) rfl rfl (fun r u hp => ?_)
  refine sw_istore (pc := 511) (lv' := [(5, .int r), (4, .int i), (3, .ref o), (2, .ref m), (1, .ref h), (0, .ref b)]) F hF.1 dL_law_511 (by decide) rfl ?_
  refine sw_aload_n (pc := 513) F dL_law_513 rfl 3 rfl ?_
  refine sw_aload_n (pc := 514) F dL_law_514 rfl 5 rfl ?_
  refine sw_iload (pc := 515) F dL_law_515 1 rfl ?_
  refine sw_iconst (pc := 517) (v := 1) F dL_law_517 rfl ?_
  refine sw_iadd (pc := 518) F dL_law_518 ?_
  refine ly_sld (pc := 519) F hF.2.2.2.2.1 hF.2.2.2.2.2.1 hF.2.2.2.2.2.2 hi1 dL_law_519 ?_
  refine sw_eqt (v := .int a1) (by rw [e1]) ?_
  refine ly_calli (pc := 520) (k' := k + mc) (n' := n + ms) (P := []) (Q := lw_rm G m b0 b1 np th hh S P) (R := (lw_out G o (ovf u) :: wAf u) ++ wR) F (sw_runV (R := room_1) (q0 := 0) (na := 1) (ci := 10) F hF.2.1 hF.2.2.1 MR (List.range' 0 3) (ly_map [] (lw_rm G m b0 b1 np th hh S P) ((lw_out G o (ovf u) :: wAf u) ++ wR)) (ly_nd _ _) gL_law_X10_setMeter rfl hr2.1 hr2.2.1 (by decide +kernel) ⟨Nat.succ_le_succ hr2.2.2.1, lw_room hr2.2.2.2 (Nat.le_of_ble_eq_true rfl)⟩ rfl rfl rfl rfl rfl (Nat.le_of_ble_eq_true rfl) dL_law_520 hk hn) rfl rfl (fun r' u' hp' => ?_)
  refine sw_istore (pc := 523) (lv' := [(6, .int r'), (5, .int r), (4, .int i), (3, .ref o), (2, .ref m), (1, .ref h), (0, .ref b)]) F hF.1 dL_law_523 (by decide) rfl ?_
  refine sw_aload_n (pc := 525) F dL_law_525 rfl 4 rfl ?_
  refine ly_calli (pc := 526) (k' := k + mc) (n' := n + ms) (P := []) (Q := lw_rm G m b0 b1 (npf u') (thf u') (hhf u') (Sf u') (Pf u')) (R := (lw_out G o (ovf u) :: wAf u) ++ wR) F (sw_runV (R := room_1) (q0 := 0) (na := 0) (ci := 10) F hF.2.1 hF.2.2.1 (k_X10_thrown l G m b0 b1 (npf u') (thf u') (hhf u') (Sf u') (Pf u')) (List.range' 0 3) (ly_map [] (lw_rm G m b0 b1 (npf u') (thf u') (hhf u') (Sf u') (Pf u')) ((lw_out G o (ovf u) :: wAf u) ++ wR)) (ly_nd _ _) gL_law_X10_thrown rfl rfl rfl (by decide +kernel) ⟨Nat.le_of_ble_eq_true rfl, Nat.le_of_ble_eq_true rfl⟩ rfl rfl rfl rfl rfl (Nat.le_of_ble_eq_true rfl) dL_law_526 hk hn) rfl rfl (fun t u9 ht => ?_)
  have ht' : t = thf u' := ht
  obtain ⟨hA1, hA2⟩ := hA r u r' u' hp hp'
  rw [hA1] at ht'
  subst ht'
  refine sw_iload (pc := 529) F dL_law_529 1 rfl ?_
  refine sw_icmp_eq (pc := 531) (tgt := 536) F dL_law_531 (by decide) (fun _ => ?_) (fun z => absurd rfl z)
  refine sw_iload (pc := 536) F dL_law_536 1 rfl ?_
  refine sw_if_ne (pc := 538) (tgt := 553) F dL_law_538 (by decide) (fun _ => ?_) (fun z => ?_)
  · skip
    refine sw_lvs (is := [2, 3, 4, 5, 6]) (lv' := [(4, .int i), (3, .ref o), (2, .ref m), (1, .ref h), (0, .ref b)]) rfl ?_
    refine sw_goto (pc := 553) (tgt := 1582) F dL_law_553 (by decide) ?_
    exact kk t u r' u' hp hp'
  · skip
    refine sw_aload_n (pc := 541) F dL_law_541 rfl 3 rfl ?_
    refine sw_iconst (pc := 542) (v := 0) F dL_law_542 rfl ?_
    refine sw_lald (pc := 543) F 3 rfl (sw_in rfl) dL_law_543 ?_
    refine sw_iload (pc := 544) F dL_law_544 0 rfl ?_
    refine sw_i2l (pc := 546) F dL_law_546 rfl ?_
    refine sw_lcmp_eq (pc := 547) (tgt := 553) F dL_law_547 dL_law_548 (by decide) (fun _ => ?_) (fun y => absurd (hA2 z) y)
    refine sw_lvs (is := [2, 3, 4, 5, 6]) (lv' := [(4, .int i), (3, .ref o), (2, .ref m), (1, .ref h), (0, .ref b)]) rfl ?_
    refine sw_goto (pc := 553) (tgt := 1582) F dL_law_553 (by decide) ?_
    exact kk t u r' u' hp hp'
set_option maxHeartbeats 4000000 in
set_option maxRecDepth 100000 in
theorem law_c6 {G : sw_E} {C : sw_C} {k n : Nat} {l : Launch} {b L : Nat} {xs : Nat → Int32} (F : sw_H G C cL_law RL wsL_law) (hF : LF G C l b L xs) {h m o : Nat} {i : Int32} {a1 a2 : Int32} (hi1 : vp_in (i + 1) L) (e1 : xs (i + 1).toNatClampNeg = a1) (hi2 : vp_in (i + 2) L) (e2 : xs (i + 2).toNatClampNeg = a2) {b0 b1 : Nat} {np th : Int32} {hh : Int64} {S P : Nat → Int64} {ov : Nat → Int64} {wA wR : va_W} {mc ms : Nat} {S1 S2 : Type} {po : Int32 → S1 → Prop} {ovf : S1 → Nat → Int64} {wAf : S1 → va_W} {pr : Int32 → S2 → Prop} {npf thf : S2 → Int32} {hhf : S2 → Int64} {Sf Pf : S2 → Nat → Int64} {rm2 : Room}
    (ML : sy_M l G yL_setCutoff wsL_setCutoff ({ frames := 10, cells := mc, slots := ms, locals := 340 } : Room) [.ref h, .int a1, .int a2, .ref o] (lw_out G o ov :: wA) (sw_QI G po (fun u => lw_out G o (ovf u) :: wAf u)) mc ms)
    (MR : sw_M l G yX10_setCutoff wsX10_setCutoff rm2 [.ref m, .int a1, .int a2] (lw_rm G m b0 b1 np th hh S P) (sw_QI G pr (fun u => lw_rm G m b0 b1 (npf u) (thf u) (hhf u) (Sf u) (Pf u))) 0 0) (hr2 : rm2.cells = 0 ∧ rm2.slots = 0 ∧ rm2.frames ≤ 11 ∧ rm2.locals ≤ 340)
    (hk : k + mc ≤ room_1.cells) (hn : n + ms ≤ room_1.slots) (hA : ∀ r u r' u', po r u → pr r' u' → thf u' = r ∧ (r = 0 → ovf u 0 = r'.toInt64))
    (kk : ∀ r u r' u', po r u → pr r' u' → SW G C (k + mc) (n + ms) (lw_rm G m b0 b1 (npf u') (thf u') (hhf u') (Sf u') (Pf u') ++ ((lw_out G o (ovf u) :: wAf u) ++ wR)) [(4, .int i), (3, .ref o), (2, .ref m), (1, .ref h), (0, .ref b)] 1582 []) : SW G C k n (lw_rm G m b0 b1 np th hh S P ++ ((lw_out G o ov :: wA) ++ wR)) [(4, .int i), (3, .ref o), (2, .ref m), (1, .ref h), (0, .ref b)] 556 [] := by
  refine sw_aload_n (pc := 556) F dL_law_556 rfl 3 rfl ?_
  refine sw_aload_n (pc := 557) F dL_law_557 rfl 4 rfl ?_
  refine sw_iload (pc := 558) F dL_law_558 0 rfl ?_
  refine sw_iconst (pc := 560) (v := 1) F dL_law_560 rfl ?_
  refine sw_iadd (pc := 561) F dL_law_561 ?_
  refine ly_sld (pc := 562) F hF.2.2.2.2.1 hF.2.2.2.2.2.1 hF.2.2.2.2.2.2 hi1 dL_law_562 ?_
  refine sw_eqt (v := .int a1) (by rw [e1]) ?_
  refine sw_aload_n (pc := 563) F dL_law_563 rfl 4 rfl ?_
  refine sw_iload (pc := 564) F dL_law_564 0 rfl ?_
  refine sw_iconst (pc := 566) (v := 2) F dL_law_566 rfl ?_
  refine sw_iadd (pc := 567) F dL_law_567 ?_
  refine ly_sld (pc := 568) F hF.2.2.2.2.1 hF.2.2.2.2.2.1 hF.2.2.2.2.2.2 hi2 dL_law_568 ?_
  refine sw_eqt (v := .int a2) (by rw [e2]) ?_
  refine sw_aload_n (pc := 569) F dL_law_569 rfl 1 rfl ?_
  refine ly_calliX (pc := 570) (k' := k + mc) (n' := n + ms) (P := lw_rm G m b0 b1 np th hh S P) (Q := lw_out G o ov :: wA) (R := wR) F (ly_runS (Ro := room_1) (na := 4) F hF.2.2.2.1 hF.2.1 hF.2.2.1 ML (List.range' (lw_rm G m b0 b1 np th hh S P).length (lw_out G o ov :: wA).length) (ly_map (lw_rm G m b0 b1 np th hh S P) (lw_out G o ov :: wA) wR) (ly_nd _ _) gL_law_L_setCutoff rfl rfl rfl (by decide +kernel) ⟨Nat.le_of_ble_eq_true rfl, Nat.le_of_ble_eq_true rfl⟩ rfl rfl (Nat.le_of_ble_eq_true rfl) dL_law_570 hk hn) rfl rfl (fun r u hp => ?_)
  refine sw_istore (pc := 573) (lv' := [(5, .int r), (4, .int i), (3, .ref o), (2, .ref m), (1, .ref h), (0, .ref b)]) F hF.1 dL_law_573 (by decide) rfl ?_
  refine sw_aload_n (pc := 575) F dL_law_575 rfl 3 rfl ?_
  refine sw_aload_n (pc := 576) F dL_law_576 rfl 5 rfl ?_
  refine sw_iload (pc := 577) F dL_law_577 1 rfl ?_
  refine sw_iconst (pc := 579) (v := 1) F dL_law_579 rfl ?_
  refine sw_iadd (pc := 580) F dL_law_580 ?_
  refine ly_sld (pc := 581) F hF.2.2.2.2.1 hF.2.2.2.2.2.1 hF.2.2.2.2.2.2 hi1 dL_law_581 ?_
  refine sw_eqt (v := .int a1) (by rw [e1]) ?_
  refine sw_aload_n (pc := 582) F dL_law_582 rfl 5 rfl ?_
  refine sw_iload (pc := 583) F dL_law_583 1 rfl ?_
  refine sw_iconst (pc := 585) (v := 2) F dL_law_585 rfl ?_
  refine sw_iadd (pc := 586) F dL_law_586 ?_
  refine ly_sld (pc := 587) F hF.2.2.2.2.1 hF.2.2.2.2.2.1 hF.2.2.2.2.2.2 hi2 dL_law_587 ?_
  refine sw_eqt (v := .int a2) (by rw [e2]) ?_
  refine ly_calli (pc := 588) (k' := k + mc) (n' := n + ms) (P := []) (Q := lw_rm G m b0 b1 np th hh S P) (R := (lw_out G o (ovf u) :: wAf u) ++ wR) F (sw_runV (R := room_1) (q0 := 0) (na := 2) (ci := 10) F hF.2.1 hF.2.2.1 MR (List.range' 0 3) (ly_map [] (lw_rm G m b0 b1 np th hh S P) ((lw_out G o (ovf u) :: wAf u) ++ wR)) (ly_nd _ _) gL_law_X10_setCutoff rfl hr2.1 hr2.2.1 (by decide +kernel) ⟨Nat.succ_le_succ hr2.2.2.1, lw_room hr2.2.2.2 (Nat.le_of_ble_eq_true rfl)⟩ rfl rfl rfl rfl rfl (Nat.le_of_ble_eq_true rfl) dL_law_588 hk hn) rfl rfl (fun r' u' hp' => ?_)
  refine sw_istore (pc := 591) (lv' := [(6, .int r'), (5, .int r), (4, .int i), (3, .ref o), (2, .ref m), (1, .ref h), (0, .ref b)]) F hF.1 dL_law_591 (by decide) rfl ?_
  refine sw_aload_n (pc := 593) F dL_law_593 rfl 4 rfl ?_
  refine ly_calli (pc := 594) (k' := k + mc) (n' := n + ms) (P := []) (Q := lw_rm G m b0 b1 (npf u') (thf u') (hhf u') (Sf u') (Pf u')) (R := (lw_out G o (ovf u) :: wAf u) ++ wR) F (sw_runV (R := room_1) (q0 := 0) (na := 0) (ci := 10) F hF.2.1 hF.2.2.1 (k_X10_thrown l G m b0 b1 (npf u') (thf u') (hhf u') (Sf u') (Pf u')) (List.range' 0 3) (ly_map [] (lw_rm G m b0 b1 (npf u') (thf u') (hhf u') (Sf u') (Pf u')) ((lw_out G o (ovf u) :: wAf u) ++ wR)) (ly_nd _ _) gL_law_X10_thrown rfl rfl rfl (by decide +kernel) ⟨Nat.le_of_ble_eq_true rfl, Nat.le_of_ble_eq_true rfl⟩ rfl rfl rfl rfl rfl (Nat.le_of_ble_eq_true rfl) dL_law_594 hk hn) rfl rfl (fun t u9 ht => ?_)
  have ht' : t = thf u' := ht
  obtain ⟨hA1, hA2⟩ := hA r u r' u' hp hp'
  rw [hA1] at ht'
  subst ht'
  refine sw_iload (pc := 597) F dL_law_597 1 rfl ?_
  refine sw_icmp_eq (pc := 599) (tgt := 604) F dL_law_599 (by decide) (fun _ => ?_) (fun z => absurd rfl z)
  refine sw_iload (pc := 604) F dL_law_604 1 rfl ?_
  refine sw_if_ne (pc := 606) (tgt := 621) F dL_law_606 (by decide) (fun _ => ?_) (fun z => ?_)
  · skip
    refine sw_lvs (is := [2, 3, 4, 5, 6]) (lv' := [(4, .int i), (3, .ref o), (2, .ref m), (1, .ref h), (0, .ref b)]) rfl ?_
    refine sw_goto (pc := 621) (tgt := 1582) F dL_law_621 (by decide) ?_
    exact kk t u r' u' hp hp'
  · skip
    refine sw_aload_n (pc := 609) F dL_law_609 rfl 3 rfl ?_
    refine sw_iconst (pc := 610) (v := 0) F dL_law_610 rfl ?_
    refine sw_lald (pc := 611) F 3 rfl (sw_in rfl) dL_law_611 ?_
    refine sw_iload (pc := 612) F dL_law_612 0 rfl ?_
    refine sw_i2l (pc := 614) F dL_law_614 rfl ?_
    refine sw_lcmp_eq (pc := 615) (tgt := 621) F dL_law_615 dL_law_616 (by decide) (fun _ => ?_) (fun y => absurd (hA2 z) y)
    refine sw_lvs (is := [2, 3, 4, 5, 6]) (lv' := [(4, .int i), (3, .ref o), (2, .ref m), (1, .ref h), (0, .ref b)]) rfl ?_
    refine sw_goto (pc := 621) (tgt := 1582) F dL_law_621 (by decide) ?_
    exact kk t u r' u' hp hp'
set_option maxHeartbeats 4000000 in
set_option maxRecDepth 100000 in
theorem law_c7 {G : sw_E} {C : sw_C} {k n : Nat} {l : Launch} {b L : Nat} {xs : Nat → Int32} (F : sw_H G C cL_law RL wsL_law) (hF : LF G C l b L xs) {h m o : Nat} {i : Int32} {a1 : Int32} (hi1 : vp_in (i + 1) L) (e1 : xs (i + 1).toNatClampNeg = a1) {b0 b1 : Nat} {np th : Int32} {hh : Int64} {S P : Nat → Int64} {ov : Nat → Int64} {wA wR : va_W} {mc ms : Nat} {S1 S2 : Type} {po : Int32 → S1 → Prop} {ovf : S1 → Nat → Int64} {wAf : S1 → va_W} {pr : Int32 → S2 → Prop} {npf thf : S2 → Int32} {hhf : S2 → Int64} {Sf Pf : S2 → Nat → Int64} {rm2 : Room}
    (ML : sy_M l G yL_setContractHour wsL_setContractHour ({ frames := 10, cells := mc, slots := ms, locals := 340 } : Room) [.ref h, .int a1, .ref o] (lw_out G o ov :: wA) (sw_QI G po (fun u => lw_out G o (ovf u) :: wAf u)) mc ms)
    (MR : sw_M l G yX10_setContractHour wsX10_setContractHour rm2 [.ref m, .int a1] (lw_rm G m b0 b1 np th hh S P) (sw_QI G pr (fun u => lw_rm G m b0 b1 (npf u) (thf u) (hhf u) (Sf u) (Pf u))) 0 0) (hr2 : rm2.cells = 0 ∧ rm2.slots = 0 ∧ rm2.frames ≤ 11 ∧ rm2.locals ≤ 340)
    (hk : k + mc ≤ room_1.cells) (hn : n + ms ≤ room_1.slots) (hA : ∀ r u r' u', po r u → pr r' u' → thf u' = r ∧ (r = 0 → ovf u 0 = r'.toInt64))
    (kk : ∀ r u r' u', po r u → pr r' u' → SW G C (k + mc) (n + ms) (lw_rm G m b0 b1 (npf u') (thf u') (hhf u') (Sf u') (Pf u') ++ ((lw_out G o (ovf u) :: wAf u) ++ wR)) [(4, .int i), (3, .ref o), (2, .ref m), (1, .ref h), (0, .ref b)] 1582 []) : SW G C k n (lw_rm G m b0 b1 np th hh S P ++ ((lw_out G o ov :: wA) ++ wR)) [(4, .int i), (3, .ref o), (2, .ref m), (1, .ref h), (0, .ref b)] 624 [] := by
  refine sw_aload_n (pc := 624) F dL_law_624 rfl 3 rfl ?_
  refine sw_aload_n (pc := 625) F dL_law_625 rfl 4 rfl ?_
  refine sw_iload (pc := 626) F dL_law_626 0 rfl ?_
  refine sw_iconst (pc := 628) (v := 1) F dL_law_628 rfl ?_
  refine sw_iadd (pc := 629) F dL_law_629 ?_
  refine ly_sld (pc := 630) F hF.2.2.2.2.1 hF.2.2.2.2.2.1 hF.2.2.2.2.2.2 hi1 dL_law_630 ?_
  refine sw_eqt (v := .int a1) (by rw [e1]) ?_
  refine sw_aload_n (pc := 631) F dL_law_631 rfl 1 rfl ?_
  refine ly_calliX (pc := 632) (k' := k + mc) (n' := n + ms) (P := lw_rm G m b0 b1 np th hh S P) (Q := lw_out G o ov :: wA) (R := wR) F (ly_runS (Ro := room_1) (na := 3) F hF.2.2.2.1 hF.2.1 hF.2.2.1 ML (List.range' (lw_rm G m b0 b1 np th hh S P).length (lw_out G o ov :: wA).length) (ly_map (lw_rm G m b0 b1 np th hh S P) (lw_out G o ov :: wA) wR) (ly_nd _ _) gL_law_L_setContractHour rfl rfl rfl (by decide +kernel) ⟨Nat.le_of_ble_eq_true rfl, Nat.le_of_ble_eq_true rfl⟩ rfl rfl (Nat.le_of_ble_eq_true rfl) dL_law_632 hk hn) rfl rfl (fun r u hp => ?_)
  refine sw_istore (pc := 635) (lv' := [(5, .int r), (4, .int i), (3, .ref o), (2, .ref m), (1, .ref h), (0, .ref b)]) F hF.1 dL_law_635 (by decide) rfl ?_
  refine sw_aload_n (pc := 637) F dL_law_637 rfl 3 rfl ?_
  refine sw_aload_n (pc := 638) F dL_law_638 rfl 5 rfl ?_
  refine sw_iload (pc := 639) F dL_law_639 1 rfl ?_
  refine sw_iconst (pc := 641) (v := 1) F dL_law_641 rfl ?_
  refine sw_iadd (pc := 642) F dL_law_642 ?_
  refine ly_sld (pc := 643) F hF.2.2.2.2.1 hF.2.2.2.2.2.1 hF.2.2.2.2.2.2 hi1 dL_law_643 ?_
  refine sw_eqt (v := .int a1) (by rw [e1]) ?_
  refine ly_calli (pc := 644) (k' := k + mc) (n' := n + ms) (P := []) (Q := lw_rm G m b0 b1 np th hh S P) (R := (lw_out G o (ovf u) :: wAf u) ++ wR) F (sw_runV (R := room_1) (q0 := 0) (na := 1) (ci := 10) F hF.2.1 hF.2.2.1 MR (List.range' 0 3) (ly_map [] (lw_rm G m b0 b1 np th hh S P) ((lw_out G o (ovf u) :: wAf u) ++ wR)) (ly_nd _ _) gL_law_X10_setContractHour rfl hr2.1 hr2.2.1 (by decide +kernel) ⟨Nat.succ_le_succ hr2.2.2.1, lw_room hr2.2.2.2 (Nat.le_of_ble_eq_true rfl)⟩ rfl rfl rfl rfl rfl (Nat.le_of_ble_eq_true rfl) dL_law_644 hk hn) rfl rfl (fun r' u' hp' => ?_)
  refine sw_istore (pc := 647) (lv' := [(6, .int r'), (5, .int r), (4, .int i), (3, .ref o), (2, .ref m), (1, .ref h), (0, .ref b)]) F hF.1 dL_law_647 (by decide) rfl ?_
  refine sw_aload_n (pc := 649) F dL_law_649 rfl 4 rfl ?_
  refine ly_calli (pc := 650) (k' := k + mc) (n' := n + ms) (P := []) (Q := lw_rm G m b0 b1 (npf u') (thf u') (hhf u') (Sf u') (Pf u')) (R := (lw_out G o (ovf u) :: wAf u) ++ wR) F (sw_runV (R := room_1) (q0 := 0) (na := 0) (ci := 10) F hF.2.1 hF.2.2.1 (k_X10_thrown l G m b0 b1 (npf u') (thf u') (hhf u') (Sf u') (Pf u')) (List.range' 0 3) (ly_map [] (lw_rm G m b0 b1 (npf u') (thf u') (hhf u') (Sf u') (Pf u')) ((lw_out G o (ovf u) :: wAf u) ++ wR)) (ly_nd _ _) gL_law_X10_thrown rfl rfl rfl (by decide +kernel) ⟨Nat.le_of_ble_eq_true rfl, Nat.le_of_ble_eq_true rfl⟩ rfl rfl rfl rfl rfl (Nat.le_of_ble_eq_true rfl) dL_law_650 hk hn) rfl rfl (fun t u9 ht => ?_)
  have ht' : t = thf u' := ht
  obtain ⟨hA1, hA2⟩ := hA r u r' u' hp hp'
  rw [hA1] at ht'
  subst ht'
  refine sw_iload (pc := 653) F dL_law_653 1 rfl ?_
  refine sw_icmp_eq (pc := 655) (tgt := 660) F dL_law_655 (by decide) (fun _ => ?_) (fun z => absurd rfl z)
  refine sw_iload (pc := 660) F dL_law_660 1 rfl ?_
  refine sw_if_ne (pc := 662) (tgt := 677) F dL_law_662 (by decide) (fun _ => ?_) (fun z => ?_)
  · skip
    refine sw_lvs (is := [2, 3, 4, 5, 6]) (lv' := [(4, .int i), (3, .ref o), (2, .ref m), (1, .ref h), (0, .ref b)]) rfl ?_
    refine sw_goto (pc := 677) (tgt := 1582) F dL_law_677 (by decide) ?_
    exact kk t u r' u' hp hp'
  · skip
    refine sw_aload_n (pc := 665) F dL_law_665 rfl 3 rfl ?_
    refine sw_iconst (pc := 666) (v := 0) F dL_law_666 rfl ?_
    refine sw_lald (pc := 667) F 3 rfl (sw_in rfl) dL_law_667 ?_
    refine sw_iload (pc := 668) F dL_law_668 0 rfl ?_
    refine sw_i2l (pc := 670) F dL_law_670 rfl ?_
    refine sw_lcmp_eq (pc := 671) (tgt := 677) F dL_law_671 dL_law_672 (by decide) (fun _ => ?_) (fun y => absurd (hA2 z) y)
    refine sw_lvs (is := [2, 3, 4, 5, 6]) (lv' := [(4, .int i), (3, .ref o), (2, .ref m), (1, .ref h), (0, .ref b)]) rfl ?_
    refine sw_goto (pc := 677) (tgt := 1582) F dL_law_677 (by decide) ?_
    exact kk t u r' u' hp hp'
set_option maxHeartbeats 4000000 in
set_option maxRecDepth 100000 in
theorem law_c8 {G : sw_E} {C : sw_C} {k n : Nat} {l : Launch} {b L : Nat} {xs : Nat → Int32} (F : sw_H G C cL_law RL wsL_law) (hF : LF G C l b L xs) {h m o : Nat} {i : Int32} {a1 a2 : Int32} (hi1 : vp_in (i + 1) L) (e1 : xs (i + 1).toNatClampNeg = a1) (hi2 : vp_in (i + 2) L) (e2 : xs (i + 2).toNatClampNeg = a2) {b0 b1 : Nat} {np th : Int32} {hh : Int64} {S P : Nat → Int64} {ov : Nat → Int64} {wA wR : va_W} {mc ms : Nat} {S1 S2 : Type} {po : Int32 → S1 → Prop} {ovf : S1 → Nat → Int64} {wAf : S1 → va_W} {pr : Int32 → S2 → Prop} {npf thf : S2 → Int32} {hhf : S2 → Int64} {Sf Pf : S2 → Nat → Int64} {rm2 : Room}
    (ML : sy_M l G yL_setRaw wsL_setRaw ({ frames := 10, cells := mc, slots := ms, locals := 340 } : Room) [.ref h, .int a1, .int a2, .ref o] (lw_out G o ov :: wA) (sw_QI G po (fun u => lw_out G o (ovf u) :: wAf u)) mc ms)
    (MR : sw_M l G yX10_setRaw wsX10_setRaw rm2 [.ref m, .int a1, .int a2] (lw_rm G m b0 b1 np th hh S P) (sw_QI G pr (fun u => lw_rm G m b0 b1 (npf u) (thf u) (hhf u) (Sf u) (Pf u))) 0 0) (hr2 : rm2.cells = 0 ∧ rm2.slots = 0 ∧ rm2.frames ≤ 11 ∧ rm2.locals ≤ 340)
    (hk : k + mc ≤ room_1.cells) (hn : n + ms ≤ room_1.slots) (hA : ∀ r u r' u', po r u → pr r' u' → thf u' = r ∧ (r = 0 → ovf u 0 = r'.toInt64))
    (kk : ∀ r u r' u', po r u → pr r' u' → SW G C (k + mc) (n + ms) (lw_rm G m b0 b1 (npf u') (thf u') (hhf u') (Sf u') (Pf u') ++ ((lw_out G o (ovf u) :: wAf u) ++ wR)) [(4, .int i), (3, .ref o), (2, .ref m), (1, .ref h), (0, .ref b)] 1582 []) : SW G C k n (lw_rm G m b0 b1 np th hh S P ++ ((lw_out G o ov :: wA) ++ wR)) [(4, .int i), (3, .ref o), (2, .ref m), (1, .ref h), (0, .ref b)] 680 [] := by
  refine sw_aload_n (pc := 680) F dL_law_680 rfl 3 rfl ?_
  refine sw_aload_n (pc := 681) F dL_law_681 rfl 4 rfl ?_
  refine sw_iload (pc := 682) F dL_law_682 0 rfl ?_
  refine sw_iconst (pc := 684) (v := 1) F dL_law_684 rfl ?_
  refine sw_iadd (pc := 685) F dL_law_685 ?_
  refine ly_sld (pc := 686) F hF.2.2.2.2.1 hF.2.2.2.2.2.1 hF.2.2.2.2.2.2 hi1 dL_law_686 ?_
  refine sw_eqt (v := .int a1) (by rw [e1]) ?_
  refine sw_aload_n (pc := 687) F dL_law_687 rfl 4 rfl ?_
  refine sw_iload (pc := 688) F dL_law_688 0 rfl ?_
  refine sw_iconst (pc := 690) (v := 2) F dL_law_690 rfl ?_
  refine sw_iadd (pc := 691) F dL_law_691 ?_
  refine ly_sld (pc := 692) F hF.2.2.2.2.1 hF.2.2.2.2.2.1 hF.2.2.2.2.2.2 hi2 dL_law_692 ?_
  refine sw_eqt (v := .int a2) (by rw [e2]) ?_
  refine sw_aload_n (pc := 693) F dL_law_693 rfl 1 rfl ?_
  refine ly_calliX (pc := 694) (k' := k + mc) (n' := n + ms) (P := lw_rm G m b0 b1 np th hh S P) (Q := lw_out G o ov :: wA) (R := wR) F (ly_runS (Ro := room_1) (na := 4) F hF.2.2.2.1 hF.2.1 hF.2.2.1 ML (List.range' (lw_rm G m b0 b1 np th hh S P).length (lw_out G o ov :: wA).length) (ly_map (lw_rm G m b0 b1 np th hh S P) (lw_out G o ov :: wA) wR) (ly_nd _ _) gL_law_L_setRaw rfl rfl rfl (by decide +kernel) ⟨Nat.le_of_ble_eq_true rfl, Nat.le_of_ble_eq_true rfl⟩ rfl rfl (Nat.le_of_ble_eq_true rfl) dL_law_694 hk hn) rfl rfl (fun r u hp => ?_)
  refine sw_istore (pc := 697) (lv' := [(5, .int r), (4, .int i), (3, .ref o), (2, .ref m), (1, .ref h), (0, .ref b)]) F hF.1 dL_law_697 (by decide) rfl ?_
  refine sw_aload_n (pc := 699) F dL_law_699 rfl 3 rfl ?_
  refine sw_aload_n (pc := 700) F dL_law_700 rfl 5 rfl ?_
  refine sw_iload (pc := 701) F dL_law_701 1 rfl ?_
  refine sw_iconst (pc := 703) (v := 1) F dL_law_703 rfl ?_
  refine sw_iadd (pc := 704) F dL_law_704 ?_
  refine ly_sld (pc := 705) F hF.2.2.2.2.1 hF.2.2.2.2.2.1 hF.2.2.2.2.2.2 hi1 dL_law_705 ?_
  refine sw_eqt (v := .int a1) (by rw [e1]) ?_
  refine sw_aload_n (pc := 706) F dL_law_706 rfl 5 rfl ?_
  refine sw_iload (pc := 707) F dL_law_707 1 rfl ?_
  refine sw_iconst (pc := 709) (v := 2) F dL_law_709 rfl ?_
  refine sw_iadd (pc := 710) F dL_law_710 ?_
  refine ly_sld (pc := 711) F hF.2.2.2.2.1 hF.2.2.2.2.2.1 hF.2.2.2.2.2.2 hi2 dL_law_711 ?_
  refine sw_eqt (v := .int a2) (by rw [e2]) ?_
  refine ly_calli (pc := 712) (k' := k + mc) (n' := n + ms) (P := []) (Q := lw_rm G m b0 b1 np th hh S P) (R := (lw_out G o (ovf u) :: wAf u) ++ wR) F (sw_runV (R := room_1) (q0 := 0) (na := 2) (ci := 10) F hF.2.1 hF.2.2.1 MR (List.range' 0 3) (ly_map [] (lw_rm G m b0 b1 np th hh S P) ((lw_out G o (ovf u) :: wAf u) ++ wR)) (ly_nd _ _) gL_law_X10_setRaw rfl hr2.1 hr2.2.1 (by decide +kernel) ⟨Nat.succ_le_succ hr2.2.2.1, lw_room hr2.2.2.2 (Nat.le_of_ble_eq_true rfl)⟩ rfl rfl rfl rfl rfl (Nat.le_of_ble_eq_true rfl) dL_law_712 hk hn) rfl rfl (fun r' u' hp' => ?_)
  refine sw_istore (pc := 715) (lv' := [(6, .int r'), (5, .int r), (4, .int i), (3, .ref o), (2, .ref m), (1, .ref h), (0, .ref b)]) F hF.1 dL_law_715 (by decide) rfl ?_
  refine sw_aload_n (pc := 717) F dL_law_717 rfl 4 rfl ?_
  refine ly_calli (pc := 718) (k' := k + mc) (n' := n + ms) (P := []) (Q := lw_rm G m b0 b1 (npf u') (thf u') (hhf u') (Sf u') (Pf u')) (R := (lw_out G o (ovf u) :: wAf u) ++ wR) F (sw_runV (R := room_1) (q0 := 0) (na := 0) (ci := 10) F hF.2.1 hF.2.2.1 (k_X10_thrown l G m b0 b1 (npf u') (thf u') (hhf u') (Sf u') (Pf u')) (List.range' 0 3) (ly_map [] (lw_rm G m b0 b1 (npf u') (thf u') (hhf u') (Sf u') (Pf u')) ((lw_out G o (ovf u) :: wAf u) ++ wR)) (ly_nd _ _) gL_law_X10_thrown rfl rfl rfl (by decide +kernel) ⟨Nat.le_of_ble_eq_true rfl, Nat.le_of_ble_eq_true rfl⟩ rfl rfl rfl rfl rfl (Nat.le_of_ble_eq_true rfl) dL_law_718 hk hn) rfl rfl (fun t u9 ht => ?_)
  have ht' : t = thf u' := ht
  obtain ⟨hA1, hA2⟩ := hA r u r' u' hp hp'
  rw [hA1] at ht'
  subst ht'
  refine sw_iload (pc := 721) F dL_law_721 1 rfl ?_
  refine sw_icmp_eq (pc := 723) (tgt := 728) F dL_law_723 (by decide) (fun _ => ?_) (fun z => absurd rfl z)
  refine sw_iload (pc := 728) F dL_law_728 1 rfl ?_
  refine sw_if_ne (pc := 730) (tgt := 745) F dL_law_730 (by decide) (fun _ => ?_) (fun z => ?_)
  · skip
    refine sw_lvs (is := [2, 3, 4, 5, 6]) (lv' := [(4, .int i), (3, .ref o), (2, .ref m), (1, .ref h), (0, .ref b)]) rfl ?_
    refine sw_goto (pc := 745) (tgt := 1582) F dL_law_745 (by decide) ?_
    exact kk t u r' u' hp hp'
  · skip
    refine sw_aload_n (pc := 733) F dL_law_733 rfl 3 rfl ?_
    refine sw_iconst (pc := 734) (v := 0) F dL_law_734 rfl ?_
    refine sw_lald (pc := 735) F 3 rfl (sw_in rfl) dL_law_735 ?_
    refine sw_iload (pc := 736) F dL_law_736 0 rfl ?_
    refine sw_i2l (pc := 738) F dL_law_738 rfl ?_
    refine sw_lcmp_eq (pc := 739) (tgt := 745) F dL_law_739 dL_law_740 (by decide) (fun _ => ?_) (fun y => absurd (hA2 z) y)
    refine sw_lvs (is := [2, 3, 4, 5, 6]) (lv' := [(4, .int i), (3, .ref o), (2, .ref m), (1, .ref h), (0, .ref b)]) rfl ?_
    refine sw_goto (pc := 745) (tgt := 1582) F dL_law_745 (by decide) ?_
    exact kk t u r' u' hp hp'
set_option maxHeartbeats 4000000 in
set_option maxRecDepth 100000 in
theorem law_c9 {G : sw_E} {C : sw_C} {k n : Nat} {l : Launch} {b L : Nat} {xs : Nat → Int32} (F : sw_H G C cL_law RL wsL_law) (hF : LF G C l b L xs) {h m o : Nat} {i : Int32} {a1 : Int32} (hi1 : vp_in (i + 1) L) (e1 : xs (i + 1).toNatClampNeg = a1) {b0 b1 : Nat} {np th : Int32} {hh : Int64} {S P : Nat → Int64} {ov : Nat → Int64} {wA wR : va_W} {mc ms : Nat} {S1 S2 : Type} {po : Int32 → S1 → Prop} {ovf : S1 → Nat → Int64} {wAf : S1 → va_W} {pr : Int64 → S2 → Prop} {npf thf : S2 → Int32} {hhf : S2 → Int64} {Sf Pf : S2 → Nat → Int64} {rm2 : Room}
    (ML : sy_M l G yL_run wsL_run ({ frames := 10, cells := mc, slots := ms, locals := 340 } : Room) [.ref h, .int a1, .ref o] (lw_out G o ov :: wA) (sw_QI G po (fun u => lw_out G o (ovf u) :: wAf u)) mc ms)
    (MR : sw_M l G yX10_run wsX10_run rm2 [.ref m, .int a1] (lw_rm G m b0 b1 np th hh S P) (sw_QL G pr (fun u => lw_rm G m b0 b1 (npf u) (thf u) (hhf u) (Sf u) (Pf u))) 0 0) (hr2 : rm2.cells = 0 ∧ rm2.slots = 0 ∧ rm2.frames ≤ 11 ∧ rm2.locals ≤ 340)
    (hk : k + mc ≤ room_1.cells) (hn : n + ms ≤ room_1.slots) (hA : ∀ r u r' u', po r u → pr r' u' → thf u' = r ∧ (r = 0 → ovf u 0 = r'))
    (kk : ∀ r u r' u', po r u → pr r' u' → SW G C (k + mc) (n + ms) (lw_rm G m b0 b1 (npf u') (thf u') (hhf u') (Sf u') (Pf u') ++ ((lw_out G o (ovf u) :: wAf u) ++ wR)) [(4, .int i), (3, .ref o), (2, .ref m), (1, .ref h), (0, .ref b)] 1582 []) : SW G C k n (lw_rm G m b0 b1 np th hh S P ++ ((lw_out G o ov :: wA) ++ wR)) [(4, .int i), (3, .ref o), (2, .ref m), (1, .ref h), (0, .ref b)] 748 [] := by
  refine sw_aload_n (pc := 748) F dL_law_748 rfl 3 rfl ?_
  refine sw_aload_n (pc := 749) F dL_law_749 rfl 4 rfl ?_
  refine sw_iload (pc := 750) F dL_law_750 0 rfl ?_
  refine sw_iconst (pc := 752) (v := 1) F dL_law_752 rfl ?_
  refine sw_iadd (pc := 753) F dL_law_753 ?_
  refine ly_sld (pc := 754) F hF.2.2.2.2.1 hF.2.2.2.2.2.1 hF.2.2.2.2.2.2 hi1 dL_law_754 ?_
  refine sw_eqt (v := .int a1) (by rw [e1]) ?_
  refine sw_aload_n (pc := 755) F dL_law_755 rfl 1 rfl ?_
  refine ly_calliX (pc := 756) (k' := k + mc) (n' := n + ms) (P := lw_rm G m b0 b1 np th hh S P) (Q := lw_out G o ov :: wA) (R := wR) F (ly_runS (Ro := room_1) (na := 3) F hF.2.2.2.1 hF.2.1 hF.2.2.1 ML (List.range' (lw_rm G m b0 b1 np th hh S P).length (lw_out G o ov :: wA).length) (ly_map (lw_rm G m b0 b1 np th hh S P) (lw_out G o ov :: wA) wR) (ly_nd _ _) gL_law_L_run rfl rfl rfl (by decide +kernel) ⟨Nat.le_of_ble_eq_true rfl, Nat.le_of_ble_eq_true rfl⟩ rfl rfl (Nat.le_of_ble_eq_true rfl) dL_law_756 hk hn) rfl rfl (fun r u hp => ?_)
  refine sw_istore (pc := 759) (lv' := [(5, .int r), (4, .int i), (3, .ref o), (2, .ref m), (1, .ref h), (0, .ref b)]) F hF.1 dL_law_759 (by decide) rfl ?_
  refine sw_aload_n (pc := 761) F dL_law_761 rfl 3 rfl ?_
  refine sw_aload_n (pc := 762) F dL_law_762 rfl 5 rfl ?_
  refine sw_iload (pc := 763) F dL_law_763 1 rfl ?_
  refine sw_iconst (pc := 765) (v := 1) F dL_law_765 rfl ?_
  refine sw_iadd (pc := 766) F dL_law_766 ?_
  refine ly_sld (pc := 767) F hF.2.2.2.2.1 hF.2.2.2.2.2.1 hF.2.2.2.2.2.2 hi1 dL_law_767 ?_
  refine sw_eqt (v := .int a1) (by rw [e1]) ?_
  refine ly_calll (pc := 768) (k' := k + mc) (n' := n + ms) (P := []) (Q := lw_rm G m b0 b1 np th hh S P) (R := (lw_out G o (ovf u) :: wAf u) ++ wR) F (sw_runV (R := room_1) (q0 := 0) (na := 1) (ci := 10) F hF.2.1 hF.2.2.1 MR (List.range' 0 3) (ly_map [] (lw_rm G m b0 b1 np th hh S P) ((lw_out G o (ovf u) :: wAf u) ++ wR)) (ly_nd _ _) gL_law_X10_run rfl hr2.1 hr2.2.1 (by decide +kernel) ⟨Nat.succ_le_succ hr2.2.2.1, lw_room hr2.2.2.2 (Nat.le_of_ble_eq_true rfl)⟩ rfl rfl rfl rfl rfl (Nat.le_of_ble_eq_true rfl) dL_law_768 hk hn) rfl rfl (fun r' u' hp' => ?_)
  refine sw_lstore (pc := 771) (lv' := [(6, .long r'), (5, .int r), (4, .int i), (3, .ref o), (2, .ref m), (1, .ref h), (0, .ref b)]) F hF.1 dL_law_771 (by decide) rfl ?_
  refine sw_aload_n (pc := 773) F dL_law_773 rfl 4 rfl ?_
  refine ly_calli (pc := 774) (k' := k + mc) (n' := n + ms) (P := []) (Q := lw_rm G m b0 b1 (npf u') (thf u') (hhf u') (Sf u') (Pf u')) (R := (lw_out G o (ovf u) :: wAf u) ++ wR) F (sw_runV (R := room_1) (q0 := 0) (na := 0) (ci := 10) F hF.2.1 hF.2.2.1 (k_X10_thrown l G m b0 b1 (npf u') (thf u') (hhf u') (Sf u') (Pf u')) (List.range' 0 3) (ly_map [] (lw_rm G m b0 b1 (npf u') (thf u') (hhf u') (Sf u') (Pf u')) ((lw_out G o (ovf u) :: wAf u) ++ wR)) (ly_nd _ _) gL_law_X10_thrown rfl rfl rfl (by decide +kernel) ⟨Nat.le_of_ble_eq_true rfl, Nat.le_of_ble_eq_true rfl⟩ rfl rfl rfl rfl rfl (Nat.le_of_ble_eq_true rfl) dL_law_774 hk hn) rfl rfl (fun t u9 ht => ?_)
  have ht' : t = thf u' := ht
  obtain ⟨hA1, hA2⟩ := hA r u r' u' hp hp'
  rw [hA1] at ht'
  subst ht'
  refine sw_iload (pc := 777) F dL_law_777 1 rfl ?_
  refine sw_icmp_eq (pc := 779) (tgt := 784) F dL_law_779 (by decide) (fun _ => ?_) (fun z => absurd rfl z)
  refine sw_iload (pc := 784) F dL_law_784 1 rfl ?_
  refine sw_if_ne (pc := 786) (tgt := 800) F dL_law_786 (by decide) (fun _ => ?_) (fun z => ?_)
  · skip
    refine sw_lvs (is := [2, 3, 4, 5, 6]) (lv' := [(4, .int i), (3, .ref o), (2, .ref m), (1, .ref h), (0, .ref b)]) rfl ?_
    refine sw_goto (pc := 800) (tgt := 1582) F dL_law_800 (by decide) ?_
    exact kk t u r' u' hp hp'
  · skip
    refine sw_aload_n (pc := 789) F dL_law_789 rfl 3 rfl ?_
    refine sw_iconst (pc := 790) (v := 0) F dL_law_790 rfl ?_
    refine sw_lald (pc := 791) F 3 rfl (sw_in rfl) dL_law_791 ?_
    refine sw_lload (pc := 792) F dL_law_792 0 rfl ?_
    refine sw_lcmp_eq (pc := 794) (tgt := 800) F dL_law_794 dL_law_795 (by decide) (fun _ => ?_) (fun y => absurd (hA2 z) y)
    refine sw_lvs (is := [2, 3, 4, 5, 6]) (lv' := [(4, .int i), (3, .ref o), (2, .ref m), (1, .ref h), (0, .ref b)]) rfl ?_
    refine sw_goto (pc := 800) (tgt := 1582) F dL_law_800 (by decide) ?_
    exact kk t u r' u' hp hp'
set_option maxHeartbeats 4000000 in
set_option maxRecDepth 100000 in
theorem law_c10 {G : sw_E} {C : sw_C} {k n : Nat} {l : Launch} {b L : Nat} {xs : Nat → Int32} (F : sw_H G C cL_law RL wsL_law) (hF : LF G C l b L xs) {h m o : Nat} {i : Int32} {a1 a2 : Int32} (hi1 : vp_in (i + 1) L) (e1 : xs (i + 1).toNatClampNeg = a1) (hi2 : vp_in (i + 2) L) (e2 : xs (i + 2).toNatClampNeg = a2) {b0 b1 : Nat} {np th : Int32} {hh : Int64} {S P : Nat → Int64} {ov : Nat → Int64} {wA wR : va_W} {mc ms : Nat} {S1 S2 : Type} {po : Int32 → S1 → Prop} {ovf : S1 → Nat → Int64} {wAf : S1 → va_W} {pr : Int32 → S2 → Prop} {npf thf : S2 → Int32} {hhf : S2 → Int64} {Sf Pf : S2 → Nat → Int64} {rm2 : Room}
    (ML : sy_M l G yL_openBatch wsL_openBatch ({ frames := 10, cells := mc, slots := ms, locals := 340 } : Room) [.ref h, .int a1, .int a2, .ref o] (lw_out G o ov :: wA) (sw_QI G po (fun u => lw_out G o (ovf u) :: wAf u)) mc ms)
    (MR : sw_M l G yX10_openBatch wsX10_openBatch rm2 [.ref m, .int a1, .int a2] (lw_rm G m b0 b1 np th hh S P) (sw_QI G pr (fun u => lw_rm G m b0 b1 (npf u) (thf u) (hhf u) (Sf u) (Pf u))) 0 0) (hr2 : rm2.cells = 0 ∧ rm2.slots = 0 ∧ rm2.frames ≤ 11 ∧ rm2.locals ≤ 340)
    (hk : k + mc ≤ room_1.cells) (hn : n + ms ≤ room_1.slots) (hA : ∀ r u r' u', po r u → pr r' u' → thf u' = r ∧ (r = 0 → ovf u 0 = r'.toInt64))
    (kk : ∀ r u r' u', po r u → pr r' u' → SW G C (k + mc) (n + ms) (lw_rm G m b0 b1 (npf u') (thf u') (hhf u') (Sf u') (Pf u') ++ ((lw_out G o (ovf u) :: wAf u) ++ wR)) [(4, .int i), (3, .ref o), (2, .ref m), (1, .ref h), (0, .ref b)] 1582 []) : SW G C k n (lw_rm G m b0 b1 np th hh S P ++ ((lw_out G o ov :: wA) ++ wR)) [(4, .int i), (3, .ref o), (2, .ref m), (1, .ref h), (0, .ref b)] 803 [] := by
  refine sw_aload_n (pc := 803) F dL_law_803 rfl 3 rfl ?_
  refine sw_aload_n (pc := 804) F dL_law_804 rfl 4 rfl ?_
  refine sw_iload (pc := 805) F dL_law_805 0 rfl ?_
  refine sw_iconst (pc := 807) (v := 1) F dL_law_807 rfl ?_
  refine sw_iadd (pc := 808) F dL_law_808 ?_
  refine ly_sld (pc := 809) F hF.2.2.2.2.1 hF.2.2.2.2.2.1 hF.2.2.2.2.2.2 hi1 dL_law_809 ?_
  refine sw_eqt (v := .int a1) (by rw [e1]) ?_
  refine sw_aload_n (pc := 810) F dL_law_810 rfl 4 rfl ?_
  refine sw_iload (pc := 811) F dL_law_811 0 rfl ?_
  refine sw_iconst (pc := 813) (v := 2) F dL_law_813 rfl ?_
  refine sw_iadd (pc := 814) F dL_law_814 ?_
  refine ly_sld (pc := 815) F hF.2.2.2.2.1 hF.2.2.2.2.2.1 hF.2.2.2.2.2.2 hi2 dL_law_815 ?_
  refine sw_eqt (v := .int a2) (by rw [e2]) ?_
  refine sw_aload_n (pc := 816) F dL_law_816 rfl 1 rfl ?_
  refine ly_calliX (pc := 817) (k' := k + mc) (n' := n + ms) (P := lw_rm G m b0 b1 np th hh S P) (Q := lw_out G o ov :: wA) (R := wR) F (ly_runS (Ro := room_1) (na := 4) F hF.2.2.2.1 hF.2.1 hF.2.2.1 ML (List.range' (lw_rm G m b0 b1 np th hh S P).length (lw_out G o ov :: wA).length) (ly_map (lw_rm G m b0 b1 np th hh S P) (lw_out G o ov :: wA) wR) (ly_nd _ _) gL_law_L_openBatch rfl rfl rfl (by decide +kernel) ⟨Nat.le_of_ble_eq_true rfl, Nat.le_of_ble_eq_true rfl⟩ rfl rfl (Nat.le_of_ble_eq_true rfl) dL_law_817 hk hn) rfl rfl (fun r u hp => ?_)
  refine sw_istore (pc := 820) (lv' := [(5, .int r), (4, .int i), (3, .ref o), (2, .ref m), (1, .ref h), (0, .ref b)]) F hF.1 dL_law_820 (by decide) rfl ?_
  refine sw_aload_n (pc := 822) F dL_law_822 rfl 3 rfl ?_
  refine sw_aload_n (pc := 823) F dL_law_823 rfl 5 rfl ?_
  refine sw_iload (pc := 824) F dL_law_824 1 rfl ?_
  refine sw_iconst (pc := 826) (v := 1) F dL_law_826 rfl ?_
  refine sw_iadd (pc := 827) F dL_law_827 ?_
  refine ly_sld (pc := 828) F hF.2.2.2.2.1 hF.2.2.2.2.2.1 hF.2.2.2.2.2.2 hi1 dL_law_828 ?_
  refine sw_eqt (v := .int a1) (by rw [e1]) ?_
  refine sw_aload_n (pc := 829) F dL_law_829 rfl 5 rfl ?_
  refine sw_iload (pc := 830) F dL_law_830 1 rfl ?_
  refine sw_iconst (pc := 832) (v := 2) F dL_law_832 rfl ?_
  refine sw_iadd (pc := 833) F dL_law_833 ?_
  refine ly_sld (pc := 834) F hF.2.2.2.2.1 hF.2.2.2.2.2.1 hF.2.2.2.2.2.2 hi2 dL_law_834 ?_
  refine sw_eqt (v := .int a2) (by rw [e2]) ?_
  refine ly_calli (pc := 835) (k' := k + mc) (n' := n + ms) (P := []) (Q := lw_rm G m b0 b1 np th hh S P) (R := (lw_out G o (ovf u) :: wAf u) ++ wR) F (sw_runV (R := room_1) (q0 := 0) (na := 2) (ci := 10) F hF.2.1 hF.2.2.1 MR (List.range' 0 3) (ly_map [] (lw_rm G m b0 b1 np th hh S P) ((lw_out G o (ovf u) :: wAf u) ++ wR)) (ly_nd _ _) gL_law_X10_openBatch rfl hr2.1 hr2.2.1 (by decide +kernel) ⟨Nat.succ_le_succ hr2.2.2.1, lw_room hr2.2.2.2 (Nat.le_of_ble_eq_true rfl)⟩ rfl rfl rfl rfl rfl (Nat.le_of_ble_eq_true rfl) dL_law_835 hk hn) rfl rfl (fun r' u' hp' => ?_)
  refine sw_istore (pc := 838) (lv' := [(6, .int r'), (5, .int r), (4, .int i), (3, .ref o), (2, .ref m), (1, .ref h), (0, .ref b)]) F hF.1 dL_law_838 (by decide) rfl ?_
  refine sw_aload_n (pc := 840) F dL_law_840 rfl 4 rfl ?_
  refine ly_calli (pc := 841) (k' := k + mc) (n' := n + ms) (P := []) (Q := lw_rm G m b0 b1 (npf u') (thf u') (hhf u') (Sf u') (Pf u')) (R := (lw_out G o (ovf u) :: wAf u) ++ wR) F (sw_runV (R := room_1) (q0 := 0) (na := 0) (ci := 10) F hF.2.1 hF.2.2.1 (k_X10_thrown l G m b0 b1 (npf u') (thf u') (hhf u') (Sf u') (Pf u')) (List.range' 0 3) (ly_map [] (lw_rm G m b0 b1 (npf u') (thf u') (hhf u') (Sf u') (Pf u')) ((lw_out G o (ovf u) :: wAf u) ++ wR)) (ly_nd _ _) gL_law_X10_thrown rfl rfl rfl (by decide +kernel) ⟨Nat.le_of_ble_eq_true rfl, Nat.le_of_ble_eq_true rfl⟩ rfl rfl rfl rfl rfl (Nat.le_of_ble_eq_true rfl) dL_law_841 hk hn) rfl rfl (fun t u9 ht => ?_)
  have ht' : t = thf u' := ht
  obtain ⟨hA1, hA2⟩ := hA r u r' u' hp hp'
  rw [hA1] at ht'
  subst ht'
  refine sw_iload (pc := 844) F dL_law_844 1 rfl ?_
  refine sw_icmp_eq (pc := 846) (tgt := 851) F dL_law_846 (by decide) (fun _ => ?_) (fun z => absurd rfl z)
  refine sw_iload (pc := 851) F dL_law_851 1 rfl ?_
  refine sw_if_ne (pc := 853) (tgt := 868) F dL_law_853 (by decide) (fun _ => ?_) (fun z => ?_)
  · skip
    refine sw_lvs (is := [2, 3, 4, 5, 6]) (lv' := [(4, .int i), (3, .ref o), (2, .ref m), (1, .ref h), (0, .ref b)]) rfl ?_
    refine sw_goto (pc := 868) (tgt := 1582) F dL_law_868 (by decide) ?_
    exact kk t u r' u' hp hp'
  · skip
    refine sw_aload_n (pc := 856) F dL_law_856 rfl 3 rfl ?_
    refine sw_iconst (pc := 857) (v := 0) F dL_law_857 rfl ?_
    refine sw_lald (pc := 858) F 3 rfl (sw_in rfl) dL_law_858 ?_
    refine sw_iload (pc := 859) F dL_law_859 0 rfl ?_
    refine sw_i2l (pc := 861) F dL_law_861 rfl ?_
    refine sw_lcmp_eq (pc := 862) (tgt := 868) F dL_law_862 dL_law_863 (by decide) (fun _ => ?_) (fun y => absurd (hA2 z) y)
    refine sw_lvs (is := [2, 3, 4, 5, 6]) (lv' := [(4, .int i), (3, .ref o), (2, .ref m), (1, .ref h), (0, .ref b)]) rfl ?_
    refine sw_goto (pc := 868) (tgt := 1582) F dL_law_868 (by decide) ?_
    exact kk t u r' u' hp hp'
set_option maxHeartbeats 4000000 in
set_option maxRecDepth 100000 in
theorem law_c11 {G : sw_E} {C : sw_C} {k n : Nat} {l : Launch} {b L : Nat} {xs : Nat → Int32} (F : sw_H G C cL_law RL wsL_law) (hF : LF G C l b L xs) {h m o : Nat} {i : Int32} {b0 b1 : Nat} {np th : Int32} {hh : Int64} {S P : Nat → Int64} {ov : Nat → Int64} {wA wR : va_W} {mc ms : Nat} {S1 S2 : Type} {po : Int32 → S1 → Prop} {ovf : S1 → Nat → Int64} {wAf : S1 → va_W} {pr : Int64 → S2 → Prop} {npf thf : S2 → Int32} {hhf : S2 → Int64} {Sf Pf : S2 → Nat → Int64} {rm2 : Room}
    (ML : sy_M l G yL_closeBatch wsL_closeBatch ({ frames := 10, cells := mc, slots := ms, locals := 340 } : Room) [.ref h, .ref o] (lw_out G o ov :: wA) (sw_QI G po (fun u => lw_out G o (ovf u) :: wAf u)) mc ms)
    (MR : sw_M l G yX10_closeBatch wsX10_closeBatch rm2 [.ref m] (lw_rm G m b0 b1 np th hh S P) (sw_QL G pr (fun u => lw_rm G m b0 b1 (npf u) (thf u) (hhf u) (Sf u) (Pf u))) 0 0) (hr2 : rm2.cells = 0 ∧ rm2.slots = 0 ∧ rm2.frames ≤ 11 ∧ rm2.locals ≤ 340)
    (hk : k + mc ≤ room_1.cells) (hn : n + ms ≤ room_1.slots) (hA : ∀ r u r' u', po r u → pr r' u' → thf u' = r ∧ (r = 0 → ovf u 0 = r'))
    (kk : ∀ r u r' u', po r u → pr r' u' → SW G C (k + mc) (n + ms) (lw_rm G m b0 b1 (npf u') (thf u') (hhf u') (Sf u') (Pf u') ++ ((lw_out G o (ovf u) :: wAf u) ++ wR)) [(4, .int i), (3, .ref o), (2, .ref m), (1, .ref h), (0, .ref b)] 1582 []) : SW G C k n (lw_rm G m b0 b1 np th hh S P ++ ((lw_out G o ov :: wA) ++ wR)) [(4, .int i), (3, .ref o), (2, .ref m), (1, .ref h), (0, .ref b)] 871 [] := by
  refine sw_aload_n (pc := 871) F dL_law_871 rfl 3 rfl ?_
  refine sw_aload_n (pc := 872) F dL_law_872 rfl 1 rfl ?_
  refine ly_calliX (pc := 873) (k' := k + mc) (n' := n + ms) (P := lw_rm G m b0 b1 np th hh S P) (Q := lw_out G o ov :: wA) (R := wR) F (ly_runS (Ro := room_1) (na := 2) F hF.2.2.2.1 hF.2.1 hF.2.2.1 ML (List.range' (lw_rm G m b0 b1 np th hh S P).length (lw_out G o ov :: wA).length) (ly_map (lw_rm G m b0 b1 np th hh S P) (lw_out G o ov :: wA) wR) (ly_nd _ _) gL_law_L_closeBatch rfl rfl rfl (by decide +kernel) ⟨Nat.le_of_ble_eq_true rfl, Nat.le_of_ble_eq_true rfl⟩ rfl rfl (Nat.le_of_ble_eq_true rfl) dL_law_873 hk hn) rfl rfl (fun r u hp => ?_)
  refine sw_istore (pc := 876) (lv' := [(5, .int r), (4, .int i), (3, .ref o), (2, .ref m), (1, .ref h), (0, .ref b)]) F hF.1 dL_law_876 (by decide) rfl ?_
  refine sw_aload_n (pc := 878) F dL_law_878 rfl 3 rfl ?_
  refine ly_calll (pc := 879) (k' := k + mc) (n' := n + ms) (P := []) (Q := lw_rm G m b0 b1 np th hh S P) (R := (lw_out G o (ovf u) :: wAf u) ++ wR) F (sw_runV (R := room_1) (q0 := 0) (na := 0) (ci := 10) F hF.2.1 hF.2.2.1 MR (List.range' 0 3) (ly_map [] (lw_rm G m b0 b1 np th hh S P) ((lw_out G o (ovf u) :: wAf u) ++ wR)) (ly_nd _ _) gL_law_X10_closeBatch rfl hr2.1 hr2.2.1 (by decide +kernel) ⟨Nat.succ_le_succ hr2.2.2.1, lw_room hr2.2.2.2 (Nat.le_of_ble_eq_true rfl)⟩ rfl rfl rfl rfl rfl (Nat.le_of_ble_eq_true rfl) dL_law_879 hk hn) rfl rfl (fun r' u' hp' => ?_)
  refine sw_lstore (pc := 882) (lv' := [(6, .long r'), (5, .int r), (4, .int i), (3, .ref o), (2, .ref m), (1, .ref h), (0, .ref b)]) F hF.1 dL_law_882 (by decide) rfl ?_
  refine sw_aload_n (pc := 884) F dL_law_884 rfl 4 rfl ?_
  refine ly_calli (pc := 885) (k' := k + mc) (n' := n + ms) (P := []) (Q := lw_rm G m b0 b1 (npf u') (thf u') (hhf u') (Sf u') (Pf u')) (R := (lw_out G o (ovf u) :: wAf u) ++ wR) F (sw_runV (R := room_1) (q0 := 0) (na := 0) (ci := 10) F hF.2.1 hF.2.2.1 (k_X10_thrown l G m b0 b1 (npf u') (thf u') (hhf u') (Sf u') (Pf u')) (List.range' 0 3) (ly_map [] (lw_rm G m b0 b1 (npf u') (thf u') (hhf u') (Sf u') (Pf u')) ((lw_out G o (ovf u) :: wAf u) ++ wR)) (ly_nd _ _) gL_law_X10_thrown rfl rfl rfl (by decide +kernel) ⟨Nat.le_of_ble_eq_true rfl, Nat.le_of_ble_eq_true rfl⟩ rfl rfl rfl rfl rfl (Nat.le_of_ble_eq_true rfl) dL_law_885 hk hn) rfl rfl (fun t u9 ht => ?_)
  have ht' : t = thf u' := ht
  obtain ⟨hA1, hA2⟩ := hA r u r' u' hp hp'
  rw [hA1] at ht'
  subst ht'
  refine sw_iload (pc := 888) F dL_law_888 1 rfl ?_
  refine sw_icmp_eq (pc := 890) (tgt := 895) F dL_law_890 (by decide) (fun _ => ?_) (fun z => absurd rfl z)
  refine sw_iload (pc := 895) F dL_law_895 1 rfl ?_
  refine sw_if_ne (pc := 897) (tgt := 911) F dL_law_897 (by decide) (fun _ => ?_) (fun z => ?_)
  · skip
    refine sw_lvs (is := [2, 3, 4, 5, 6]) (lv' := [(4, .int i), (3, .ref o), (2, .ref m), (1, .ref h), (0, .ref b)]) rfl ?_
    refine sw_goto (pc := 911) (tgt := 1582) F dL_law_911 (by decide) ?_
    exact kk t u r' u' hp hp'
  · skip
    refine sw_aload_n (pc := 900) F dL_law_900 rfl 3 rfl ?_
    refine sw_iconst (pc := 901) (v := 0) F dL_law_901 rfl ?_
    refine sw_lald (pc := 902) F 3 rfl (sw_in rfl) dL_law_902 ?_
    refine sw_lload (pc := 903) F dL_law_903 0 rfl ?_
    refine sw_lcmp_eq (pc := 905) (tgt := 911) F dL_law_905 dL_law_906 (by decide) (fun _ => ?_) (fun y => absurd (hA2 z) y)
    refine sw_lvs (is := [2, 3, 4, 5, 6]) (lv' := [(4, .int i), (3, .ref o), (2, .ref m), (1, .ref h), (0, .ref b)]) rfl ?_
    refine sw_goto (pc := 911) (tgt := 1582) F dL_law_911 (by decide) ?_
    exact kk t u r' u' hp hp'
set_option maxHeartbeats 4000000 in
set_option maxRecDepth 100000 in
theorem law_c12 {G : sw_E} {C : sw_C} {k n : Nat} {l : Launch} {b L : Nat} {xs : Nat → Int32} (F : sw_H G C cL_law RL wsL_law) (hF : LF G C l b L xs) {h m o : Nat} {i : Int32} {a1 a2 : Int32} (hi1 : vp_in (i + 1) L) (e1 : xs (i + 1).toNatClampNeg = a1) (hi2 : vp_in (i + 2) L) (e2 : xs (i + 2).toNatClampNeg = a2) {b0 b1 : Nat} {np th : Int32} {hh : Int64} {S P : Nat → Int64} {ov : Nat → Int64} {wA wR : va_W} {mc ms : Nat} {S1 S2 : Type} {po : Int32 → S1 → Prop} {ovf : S1 → Nat → Int64} {wAf : S1 → va_W} {pr : Int32 → S2 → Prop} {npf thf : S2 → Int32} {hhf : S2 → Int64} {Sf Pf : S2 → Nat → Int64} {rm2 : Room}
    (ML : sy_M l G yL_transmitter wsL_transmitter ({ frames := 10, cells := mc, slots := ms, locals := 340 } : Room) [.ref h, .int a1, .int a2, .ref o] (lw_out G o ov :: wA) (sw_QI G po (fun u => lw_out G o (ovf u) :: wAf u)) mc ms)
    (MR : sw_M l G yX10_transmitter wsX10_transmitter rm2 [.ref m, .int a1, .int a2] (lw_rm G m b0 b1 np th hh S P) (sw_QI G pr (fun u => lw_rm G m b0 b1 (npf u) (thf u) (hhf u) (Sf u) (Pf u))) 0 0) (hr2 : rm2.cells = 0 ∧ rm2.slots = 0 ∧ rm2.frames ≤ 11 ∧ rm2.locals ≤ 340)
    (hk : k + mc ≤ room_1.cells) (hn : n + ms ≤ room_1.slots) (hA : ∀ r u r' u', po r u → pr r' u' → thf u' = r ∧ (r = 0 → ovf u 0 = r'.toInt64))
    (kk : ∀ r u r' u', po r u → pr r' u' → SW G C (k + mc) (n + ms) (lw_rm G m b0 b1 (npf u') (thf u') (hhf u') (Sf u') (Pf u') ++ ((lw_out G o (ovf u) :: wAf u) ++ wR)) [(4, .int i), (3, .ref o), (2, .ref m), (1, .ref h), (0, .ref b)] 1582 []) : SW G C k n (lw_rm G m b0 b1 np th hh S P ++ ((lw_out G o ov :: wA) ++ wR)) [(4, .int i), (3, .ref o), (2, .ref m), (1, .ref h), (0, .ref b)] 914 [] := by
  refine sw_aload_n (pc := 914) F dL_law_914 rfl 3 rfl ?_
  refine sw_aload_n (pc := 915) F dL_law_915 rfl 4 rfl ?_
  refine sw_iload (pc := 916) F dL_law_916 0 rfl ?_
  refine sw_iconst (pc := 918) (v := 1) F dL_law_918 rfl ?_
  refine sw_iadd (pc := 919) F dL_law_919 ?_
  refine ly_sld (pc := 920) F hF.2.2.2.2.1 hF.2.2.2.2.2.1 hF.2.2.2.2.2.2 hi1 dL_law_920 ?_
  refine sw_eqt (v := .int a1) (by rw [e1]) ?_
  refine sw_aload_n (pc := 921) F dL_law_921 rfl 4 rfl ?_
  refine sw_iload (pc := 922) F dL_law_922 0 rfl ?_
  refine sw_iconst (pc := 924) (v := 2) F dL_law_924 rfl ?_
  refine sw_iadd (pc := 925) F dL_law_925 ?_
  refine ly_sld (pc := 926) F hF.2.2.2.2.1 hF.2.2.2.2.2.1 hF.2.2.2.2.2.2 hi2 dL_law_926 ?_
  refine sw_eqt (v := .int a2) (by rw [e2]) ?_
  refine sw_aload_n (pc := 927) F dL_law_927 rfl 1 rfl ?_
  refine ly_calliX (pc := 928) (k' := k + mc) (n' := n + ms) (P := lw_rm G m b0 b1 np th hh S P) (Q := lw_out G o ov :: wA) (R := wR) F (ly_runS (Ro := room_1) (na := 4) F hF.2.2.2.1 hF.2.1 hF.2.2.1 ML (List.range' (lw_rm G m b0 b1 np th hh S P).length (lw_out G o ov :: wA).length) (ly_map (lw_rm G m b0 b1 np th hh S P) (lw_out G o ov :: wA) wR) (ly_nd _ _) gL_law_L_transmitter rfl rfl rfl (by decide +kernel) ⟨Nat.le_of_ble_eq_true rfl, Nat.le_of_ble_eq_true rfl⟩ rfl rfl (Nat.le_of_ble_eq_true rfl) dL_law_928 hk hn) rfl rfl (fun r u hp => ?_)
  refine sw_istore (pc := 931) (lv' := [(5, .int r), (4, .int i), (3, .ref o), (2, .ref m), (1, .ref h), (0, .ref b)]) F hF.1 dL_law_931 (by decide) rfl ?_
  refine sw_aload_n (pc := 933) F dL_law_933 rfl 3 rfl ?_
  refine sw_aload_n (pc := 934) F dL_law_934 rfl 5 rfl ?_
  refine sw_iload (pc := 935) F dL_law_935 1 rfl ?_
  refine sw_iconst (pc := 937) (v := 1) F dL_law_937 rfl ?_
  refine sw_iadd (pc := 938) F dL_law_938 ?_
  refine ly_sld (pc := 939) F hF.2.2.2.2.1 hF.2.2.2.2.2.1 hF.2.2.2.2.2.2 hi1 dL_law_939 ?_
  refine sw_eqt (v := .int a1) (by rw [e1]) ?_
  refine sw_aload_n (pc := 940) F dL_law_940 rfl 5 rfl ?_
  refine sw_iload (pc := 941) F dL_law_941 1 rfl ?_
  refine sw_iconst (pc := 943) (v := 2) F dL_law_943 rfl ?_
  refine sw_iadd (pc := 944) F dL_law_944 ?_
  refine ly_sld (pc := 945) F hF.2.2.2.2.1 hF.2.2.2.2.2.1 hF.2.2.2.2.2.2 hi2 dL_law_945 ?_
  refine sw_eqt (v := .int a2) (by rw [e2]) ?_
  refine ly_calli (pc := 946) (k' := k + mc) (n' := n + ms) (P := []) (Q := lw_rm G m b0 b1 np th hh S P) (R := (lw_out G o (ovf u) :: wAf u) ++ wR) F (sw_runV (R := room_1) (q0 := 0) (na := 2) (ci := 10) F hF.2.1 hF.2.2.1 MR (List.range' 0 3) (ly_map [] (lw_rm G m b0 b1 np th hh S P) ((lw_out G o (ovf u) :: wAf u) ++ wR)) (ly_nd _ _) gL_law_X10_transmitter rfl hr2.1 hr2.2.1 (by decide +kernel) ⟨Nat.succ_le_succ hr2.2.2.1, lw_room hr2.2.2.2 (Nat.le_of_ble_eq_true rfl)⟩ rfl rfl rfl rfl rfl (Nat.le_of_ble_eq_true rfl) dL_law_946 hk hn) rfl rfl (fun r' u' hp' => ?_)
  refine sw_istore (pc := 949) (lv' := [(6, .int r'), (5, .int r), (4, .int i), (3, .ref o), (2, .ref m), (1, .ref h), (0, .ref b)]) F hF.1 dL_law_949 (by decide) rfl ?_
  refine sw_aload_n (pc := 951) F dL_law_951 rfl 4 rfl ?_
  refine ly_calli (pc := 952) (k' := k + mc) (n' := n + ms) (P := []) (Q := lw_rm G m b0 b1 (npf u') (thf u') (hhf u') (Sf u') (Pf u')) (R := (lw_out G o (ovf u) :: wAf u) ++ wR) F (sw_runV (R := room_1) (q0 := 0) (na := 0) (ci := 10) F hF.2.1 hF.2.2.1 (k_X10_thrown l G m b0 b1 (npf u') (thf u') (hhf u') (Sf u') (Pf u')) (List.range' 0 3) (ly_map [] (lw_rm G m b0 b1 (npf u') (thf u') (hhf u') (Sf u') (Pf u')) ((lw_out G o (ovf u) :: wAf u) ++ wR)) (ly_nd _ _) gL_law_X10_thrown rfl rfl rfl (by decide +kernel) ⟨Nat.le_of_ble_eq_true rfl, Nat.le_of_ble_eq_true rfl⟩ rfl rfl rfl rfl rfl (Nat.le_of_ble_eq_true rfl) dL_law_952 hk hn) rfl rfl (fun t u9 ht => ?_)
  have ht' : t = thf u' := ht
  obtain ⟨hA1, hA2⟩ := hA r u r' u' hp hp'
  rw [hA1] at ht'
  subst ht'
  refine sw_iload (pc := 955) F dL_law_955 1 rfl ?_
  refine sw_icmp_eq (pc := 957) (tgt := 962) F dL_law_957 (by decide) (fun _ => ?_) (fun z => absurd rfl z)
  refine sw_iload (pc := 962) F dL_law_962 1 rfl ?_
  refine sw_if_ne (pc := 964) (tgt := 979) F dL_law_964 (by decide) (fun _ => ?_) (fun z => ?_)
  · skip
    refine sw_lvs (is := [2, 3, 4, 5, 6]) (lv' := [(4, .int i), (3, .ref o), (2, .ref m), (1, .ref h), (0, .ref b)]) rfl ?_
    refine sw_goto (pc := 979) (tgt := 1582) F dL_law_979 (by decide) ?_
    exact kk t u r' u' hp hp'
  · skip
    refine sw_aload_n (pc := 967) F dL_law_967 rfl 3 rfl ?_
    refine sw_iconst (pc := 968) (v := 0) F dL_law_968 rfl ?_
    refine sw_lald (pc := 969) F 3 rfl (sw_in rfl) dL_law_969 ?_
    refine sw_iload (pc := 970) F dL_law_970 0 rfl ?_
    refine sw_i2l (pc := 972) F dL_law_972 rfl ?_
    refine sw_lcmp_eq (pc := 973) (tgt := 979) F dL_law_973 dL_law_974 (by decide) (fun _ => ?_) (fun y => absurd (hA2 z) y)
    refine sw_lvs (is := [2, 3, 4, 5, 6]) (lv' := [(4, .int i), (3, .ref o), (2, .ref m), (1, .ref h), (0, .ref b)]) rfl ?_
    refine sw_goto (pc := 979) (tgt := 1582) F dL_law_979 (by decide) ?_
    exact kk t u r' u' hp hp'
set_option maxHeartbeats 4000000 in
set_option maxRecDepth 100000 in
theorem law_c13 {G : sw_E} {C : sw_C} {k n : Nat} {l : Launch} {b L : Nat} {xs : Nat → Int32} (F : sw_H G C cL_law RL wsL_law) (hF : LF G C l b L xs) {h m o : Nat} {i : Int32} {b0 b1 : Nat} {np th : Int32} {hh : Int64} {S P : Nat → Int64} {ov : Nat → Int64} {fs : List Value} {wX wY : va_W} {S1 S2 : Type} {po : Int32 → S1 → Prop} {pr : Int32 → S2 → Prop} {npf thf : S2 → Int32} {hhf : S2 → Int64} {Sf Pf : S2 → Nat → Int64} {rm1 rm2 : Room}
    (ML : sw_M l G yX9_range wsX9_range rm1 [.ref h] ((h, .inr (9, fs)) :: wX) (sw_QI G po (fun _ => (h, .inr (9, fs)) :: wX)) 0 0) (hr1 : rm1.cells = 0 ∧ rm1.slots = 0 ∧ rm1.frames ≤ 11 ∧ rm1.locals ≤ 340)
    (MR : sw_M l G yX10_range wsX10_range rm2 [.ref m] (lw_rm G m b0 b1 np th hh S P) (sw_QI G pr (fun u => lw_rm G m b0 b1 (npf u) (thf u) (hhf u) (Sf u) (Pf u))) 0 0) (hr2 : rm2.cells = 0 ∧ rm2.slots = 0 ∧ rm2.frames ≤ 11 ∧ rm2.locals ≤ 340)
    (hk : k ≤ room_1.cells) (hn : n ≤ room_1.slots) (hA : ∀ r u r' u', po r u → pr r' u' → r = r')
    (kk : ∀ r u r' u', po r u → pr r' u' → SW G C k n (lw_rm G m b0 b1 (npf u') (thf u') (hhf u') (Sf u') (Pf u') ++ (lw_out G o ov :: ((((h, .inr (9, fs)) :: wX)) ++ wY))) [(4, .int i), (3, .ref o), (2, .ref m), (1, .ref h), (0, .ref b)] 1582 []) : SW G C k n (lw_rm G m b0 b1 np th hh S P ++ (lw_out G o ov :: ((((h, .inr (9, fs)) :: wX)) ++ wY))) [(4, .int i), (3, .ref o), (2, .ref m), (1, .ref h), (0, .ref b)] 982 [] := by
  refine sw_aload_n (pc := 982) F dL_law_982 rfl 3 rfl ?_
  refine ly_calli (pc := 983) (k' := k) (n' := n) (P := lw_rm G m b0 b1 np th hh S P ++ [lw_out G o ov]) (Q := (h, .inr (9, fs)) :: wX) (R := wY) F (sw_runV (R := room_1) (q0 := 0) (na := 0) (ci := 9) F hF.2.1 hF.2.2.1 ML (List.range' (lw_rm G m b0 b1 np th hh S P ++ [lw_out G o ov]).length (((h, .inr (9, fs)) :: wX) : va_W).length) (ly_map (lw_rm G m b0 b1 np th hh S P ++ [lw_out G o ov]) ((h, .inr (9, fs)) :: wX) wY) (ly_nd _ _) gL_law_X9_range rfl hr1.1 hr1.2.1 (by decide +kernel) ⟨Nat.succ_le_succ hr1.2.2.1, lw_room hr1.2.2.2 (Nat.le_of_ble_eq_true rfl)⟩ rfl rfl rfl rfl rfl (Nat.le_of_ble_eq_true rfl) dL_law_983 hk hn) rfl rfl (fun r u hp => ?_)
  refine sw_aload_n (pc := 986) F dL_law_986 rfl 2 rfl ?_
  refine ly_calli (pc := 987) (k' := k) (n' := n) (P := []) (Q := lw_rm G m b0 b1 np th hh S P) (R := lw_out G o ov :: (((h, .inr (9, fs)) :: wX) ++ wY)) F (sw_runV (R := room_1) (q0 := 0) (na := 0) (ci := 10) F hF.2.1 hF.2.2.1 MR (List.range' 0 3) (ly_map [] (lw_rm G m b0 b1 np th hh S P) (lw_out G o ov :: (((h, .inr (9, fs)) :: wX) ++ wY))) (ly_nd _ _) gL_law_X10_range rfl hr2.1 hr2.2.1 (by decide +kernel) ⟨Nat.succ_le_succ hr2.2.2.1, lw_room hr2.2.2.2 (Nat.le_of_ble_eq_true rfl)⟩ rfl rfl rfl rfl rfl (Nat.le_of_ble_eq_true rfl) dL_law_987 hk hn) rfl rfl (fun r' u' hp' => ?_)
  have hA1 := hA r u r' u' hp hp'
  refine sw_icmp_eq (pc := 990) (tgt := 1582) F dL_law_990 (by decide) (fun _ => ?_) (fun y => absurd hA1 y)
  exact kk r u r' u' hp hp'
set_option maxHeartbeats 4000000 in
set_option maxRecDepth 100000 in
theorem law_c14 {G : sw_E} {C : sw_C} {k n : Nat} {l : Launch} {b L : Nat} {xs : Nat → Int32} (F : sw_H G C cL_law RL wsL_law) (hF : LF G C l b L xs) {h m o : Nat} {i : Int32} {b0 b1 : Nat} {np th : Int32} {hh : Int64} {S P : Nat → Int64} {ov : Nat → Int64} {fs : List Value} {wX wY : va_W} {S1 S2 : Type} {po : Int32 → S1 → Prop} {pr : Int32 → S2 → Prop} {npf thf : S2 → Int32} {hhf : S2 → Int64} {Sf Pf : S2 → Nat → Int64} {rm1 rm2 : Room}
    (ML : sw_M l G yX9_differential wsX9_differential rm1 [.ref h] ((h, .inr (9, fs)) :: wX) (sw_QI G po (fun _ => (h, .inr (9, fs)) :: wX)) 0 0) (hr1 : rm1.cells = 0 ∧ rm1.slots = 0 ∧ rm1.frames ≤ 11 ∧ rm1.locals ≤ 340)
    (MR : sw_M l G yX10_differential wsX10_differential rm2 [.ref m] (lw_rm G m b0 b1 np th hh S P) (sw_QI G pr (fun u => lw_rm G m b0 b1 (npf u) (thf u) (hhf u) (Sf u) (Pf u))) 0 0) (hr2 : rm2.cells = 0 ∧ rm2.slots = 0 ∧ rm2.frames ≤ 11 ∧ rm2.locals ≤ 340)
    (hk : k ≤ room_1.cells) (hn : n ≤ room_1.slots) (hA : ∀ r u r' u', po r u → pr r' u' → r = r')
    (kk : ∀ r u r' u', po r u → pr r' u' → SW G C k n (lw_rm G m b0 b1 (npf u') (thf u') (hhf u') (Sf u') (Pf u') ++ (lw_out G o ov :: ((((h, .inr (9, fs)) :: wX)) ++ wY))) [(4, .int i), (3, .ref o), (2, .ref m), (1, .ref h), (0, .ref b)] 1582 []) : SW G C k n (lw_rm G m b0 b1 np th hh S P ++ (lw_out G o ov :: ((((h, .inr (9, fs)) :: wX)) ++ wY))) [(4, .int i), (3, .ref o), (2, .ref m), (1, .ref h), (0, .ref b)] 995 [] := by
  refine sw_aload_n (pc := 995) F dL_law_995 rfl 3 rfl ?_
  refine ly_calli (pc := 996) (k' := k) (n' := n) (P := lw_rm G m b0 b1 np th hh S P ++ [lw_out G o ov]) (Q := (h, .inr (9, fs)) :: wX) (R := wY) F (sw_runV (R := room_1) (q0 := 0) (na := 0) (ci := 9) F hF.2.1 hF.2.2.1 ML (List.range' (lw_rm G m b0 b1 np th hh S P ++ [lw_out G o ov]).length (((h, .inr (9, fs)) :: wX) : va_W).length) (ly_map (lw_rm G m b0 b1 np th hh S P ++ [lw_out G o ov]) ((h, .inr (9, fs)) :: wX) wY) (ly_nd _ _) gL_law_X9_differential rfl hr1.1 hr1.2.1 (by decide +kernel) ⟨Nat.succ_le_succ hr1.2.2.1, lw_room hr1.2.2.2 (Nat.le_of_ble_eq_true rfl)⟩ rfl rfl rfl rfl rfl (Nat.le_of_ble_eq_true rfl) dL_law_996 hk hn) rfl rfl (fun r u hp => ?_)
  refine sw_aload_n (pc := 999) F dL_law_999 rfl 2 rfl ?_
  refine ly_calli (pc := 1000) (k' := k) (n' := n) (P := []) (Q := lw_rm G m b0 b1 np th hh S P) (R := lw_out G o ov :: (((h, .inr (9, fs)) :: wX) ++ wY)) F (sw_runV (R := room_1) (q0 := 0) (na := 0) (ci := 10) F hF.2.1 hF.2.2.1 MR (List.range' 0 3) (ly_map [] (lw_rm G m b0 b1 np th hh S P) (lw_out G o ov :: (((h, .inr (9, fs)) :: wX) ++ wY))) (ly_nd _ _) gL_law_X10_differential rfl hr2.1 hr2.2.1 (by decide +kernel) ⟨Nat.succ_le_succ hr2.2.2.1, lw_room hr2.2.2.2 (Nat.le_of_ble_eq_true rfl)⟩ rfl rfl rfl rfl rfl (Nat.le_of_ble_eq_true rfl) dL_law_1000 hk hn) rfl rfl (fun r' u' hp' => ?_)
  have hA1 := hA r u r' u' hp hp'
  refine sw_icmp_eq (pc := 1003) (tgt := 1582) F dL_law_1003 (by decide) (fun _ => ?_) (fun y => absurd hA1 y)
  exact kk r u r' u' hp hp'
set_option maxHeartbeats 4000000 in
set_option maxRecDepth 100000 in
theorem law_c15 {G : sw_E} {C : sw_C} {k n : Nat} {l : Launch} {b L : Nat} {xs : Nat → Int32} (F : sw_H G C cL_law RL wsL_law) (hF : LF G C l b L xs) {h m o : Nat} {i : Int32} {b0 b1 : Nat} {np th : Int32} {hh : Int64} {S P : Nat → Int64} {ov : Nat → Int64} {fs : List Value} {wX wY : va_W} {S1 S2 : Type} {po : Int64 → S1 → Prop} {pr : Int64 → S2 → Prop} {npf thf : S2 → Int32} {hhf : S2 → Int64} {Sf Pf : S2 → Nat → Int64} {rm1 rm2 : Room}
    (ML : sw_M l G yX9_density wsX9_density rm1 [.ref h] ((h, .inr (9, fs)) :: wX) (sw_QL G po (fun _ => (h, .inr (9, fs)) :: wX)) 0 0) (hr1 : rm1.cells = 0 ∧ rm1.slots = 0 ∧ rm1.frames ≤ 11 ∧ rm1.locals ≤ 340)
    (MR : sw_M l G yX10_density wsX10_density rm2 [.ref m] (lw_rm G m b0 b1 np th hh S P) (sw_QL G pr (fun u => lw_rm G m b0 b1 (npf u) (thf u) (hhf u) (Sf u) (Pf u))) 0 0) (hr2 : rm2.cells = 0 ∧ rm2.slots = 0 ∧ rm2.frames ≤ 11 ∧ rm2.locals ≤ 340)
    (hk : k ≤ room_1.cells) (hn : n ≤ room_1.slots) (hA : ∀ r u r' u', po r u → pr r' u' → r = r')
    (kk : ∀ r u r' u', po r u → pr r' u' → SW G C k n (lw_rm G m b0 b1 (npf u') (thf u') (hhf u') (Sf u') (Pf u') ++ (lw_out G o ov :: ((((h, .inr (9, fs)) :: wX)) ++ wY))) [(4, .int i), (3, .ref o), (2, .ref m), (1, .ref h), (0, .ref b)] 1582 []) : SW G C k n (lw_rm G m b0 b1 np th hh S P ++ (lw_out G o ov :: ((((h, .inr (9, fs)) :: wX)) ++ wY))) [(4, .int i), (3, .ref o), (2, .ref m), (1, .ref h), (0, .ref b)] 1008 [] := by
  refine sw_aload_n (pc := 1008) F dL_law_1008 rfl 3 rfl ?_
  refine ly_calll (pc := 1009) (k' := k) (n' := n) (P := lw_rm G m b0 b1 np th hh S P ++ [lw_out G o ov]) (Q := (h, .inr (9, fs)) :: wX) (R := wY) F (sw_runV (R := room_1) (q0 := 0) (na := 0) (ci := 9) F hF.2.1 hF.2.2.1 ML (List.range' (lw_rm G m b0 b1 np th hh S P ++ [lw_out G o ov]).length (((h, .inr (9, fs)) :: wX) : va_W).length) (ly_map (lw_rm G m b0 b1 np th hh S P ++ [lw_out G o ov]) ((h, .inr (9, fs)) :: wX) wY) (ly_nd _ _) gL_law_X9_density rfl hr1.1 hr1.2.1 (by decide +kernel) ⟨Nat.succ_le_succ hr1.2.2.1, lw_room hr1.2.2.2 (Nat.le_of_ble_eq_true rfl)⟩ rfl rfl rfl rfl rfl (Nat.le_of_ble_eq_true rfl) dL_law_1009 hk hn) rfl rfl (fun r u hp => ?_)
  refine sw_aload_n (pc := 1012) F dL_law_1012 rfl 2 rfl ?_
  refine ly_calll (pc := 1013) (k' := k) (n' := n) (P := []) (Q := lw_rm G m b0 b1 np th hh S P) (R := lw_out G o ov :: (((h, .inr (9, fs)) :: wX) ++ wY)) F (sw_runV (R := room_1) (q0 := 0) (na := 0) (ci := 10) F hF.2.1 hF.2.2.1 MR (List.range' 0 3) (ly_map [] (lw_rm G m b0 b1 np th hh S P) (lw_out G o ov :: (((h, .inr (9, fs)) :: wX) ++ wY))) (ly_nd _ _) gL_law_X10_density rfl hr2.1 hr2.2.1 (by decide +kernel) ⟨Nat.succ_le_succ hr2.2.2.1, lw_room hr2.2.2.2 (Nat.le_of_ble_eq_true rfl)⟩ rfl rfl rfl rfl rfl (Nat.le_of_ble_eq_true rfl) dL_law_1013 hk hn) rfl rfl (fun r' u' hp' => ?_)
  have hA1 := hA r u r' u' hp hp'
  refine sw_lcmp_eq (pc := 1016) (tgt := 1582) F dL_law_1016 dL_law_1017 (by decide) (fun _ => ?_) (fun y => absurd hA1 y)
  exact kk r u r' u' hp hp'
set_option maxHeartbeats 4000000 in
set_option maxRecDepth 100000 in
theorem law_c16 {G : sw_E} {C : sw_C} {k n : Nat} {l : Launch} {b L : Nat} {xs : Nat → Int32} (F : sw_H G C cL_law RL wsL_law) (hF : LF G C l b L xs) {h m o : Nat} {i : Int32} {b0 b1 : Nat} {np th : Int32} {hh : Int64} {S P : Nat → Int64} {ov : Nat → Int64} {fs : List Value} {wX wY : va_W} {S1 S2 : Type} {po : Int64 → S1 → Prop} {pr : Int64 → S2 → Prop} {npf thf : S2 → Int32} {hhf : S2 → Int64} {Sf Pf : S2 → Nat → Int64} {rm1 rm2 : Room}
    (ML : sw_M l G yX9_flow wsX9_flow rm1 [.ref h] ((h, .inr (9, fs)) :: wX) (sw_QL G po (fun _ => (h, .inr (9, fs)) :: wX)) 0 0) (hr1 : rm1.cells = 0 ∧ rm1.slots = 0 ∧ rm1.frames ≤ 11 ∧ rm1.locals ≤ 340)
    (MR : sw_M l G yX10_flow wsX10_flow rm2 [.ref m] (lw_rm G m b0 b1 np th hh S P) (sw_QL G pr (fun u => lw_rm G m b0 b1 (npf u) (thf u) (hhf u) (Sf u) (Pf u))) 0 0) (hr2 : rm2.cells = 0 ∧ rm2.slots = 0 ∧ rm2.frames ≤ 11 ∧ rm2.locals ≤ 340)
    (hk : k ≤ room_1.cells) (hn : n ≤ room_1.slots) (hA : ∀ r u r' u', po r u → pr r' u' → r = r')
    (kk : ∀ r u r' u', po r u → pr r' u' → SW G C k n (lw_rm G m b0 b1 (npf u') (thf u') (hhf u') (Sf u') (Pf u') ++ (lw_out G o ov :: ((((h, .inr (9, fs)) :: wX)) ++ wY))) [(4, .int i), (3, .ref o), (2, .ref m), (1, .ref h), (0, .ref b)] 1582 []) : SW G C k n (lw_rm G m b0 b1 np th hh S P ++ (lw_out G o ov :: ((((h, .inr (9, fs)) :: wX)) ++ wY))) [(4, .int i), (3, .ref o), (2, .ref m), (1, .ref h), (0, .ref b)] 1022 [] := by
  refine sw_aload_n (pc := 1022) F dL_law_1022 rfl 3 rfl ?_
  refine ly_calll (pc := 1023) (k' := k) (n' := n) (P := lw_rm G m b0 b1 np th hh S P ++ [lw_out G o ov]) (Q := (h, .inr (9, fs)) :: wX) (R := wY) F (sw_runV (R := room_1) (q0 := 0) (na := 0) (ci := 9) F hF.2.1 hF.2.2.1 ML (List.range' (lw_rm G m b0 b1 np th hh S P ++ [lw_out G o ov]).length (((h, .inr (9, fs)) :: wX) : va_W).length) (ly_map (lw_rm G m b0 b1 np th hh S P ++ [lw_out G o ov]) ((h, .inr (9, fs)) :: wX) wY) (ly_nd _ _) gL_law_X9_flow rfl hr1.1 hr1.2.1 (by decide +kernel) ⟨Nat.succ_le_succ hr1.2.2.1, lw_room hr1.2.2.2 (Nat.le_of_ble_eq_true rfl)⟩ rfl rfl rfl rfl rfl (Nat.le_of_ble_eq_true rfl) dL_law_1023 hk hn) rfl rfl (fun r u hp => ?_)
  refine sw_aload_n (pc := 1026) F dL_law_1026 rfl 2 rfl ?_
  refine ly_calll (pc := 1027) (k' := k) (n' := n) (P := []) (Q := lw_rm G m b0 b1 np th hh S P) (R := lw_out G o ov :: (((h, .inr (9, fs)) :: wX) ++ wY)) F (sw_runV (R := room_1) (q0 := 0) (na := 0) (ci := 10) F hF.2.1 hF.2.2.1 MR (List.range' 0 3) (ly_map [] (lw_rm G m b0 b1 np th hh S P) (lw_out G o ov :: (((h, .inr (9, fs)) :: wX) ++ wY))) (ly_nd _ _) gL_law_X10_flow rfl hr2.1 hr2.2.1 (by decide +kernel) ⟨Nat.succ_le_succ hr2.2.2.1, lw_room hr2.2.2.2 (Nat.le_of_ble_eq_true rfl)⟩ rfl rfl rfl rfl rfl (Nat.le_of_ble_eq_true rfl) dL_law_1027 hk hn) rfl rfl (fun r' u' hp' => ?_)
  have hA1 := hA r u r' u' hp hp'
  refine sw_lcmp_eq (pc := 1030) (tgt := 1582) F dL_law_1030 dL_law_1031 (by decide) (fun _ => ?_) (fun y => absurd hA1 y)
  exact kk r u r' u' hp hp'
set_option maxHeartbeats 4000000 in
set_option maxRecDepth 100000 in
theorem law_c17 {G : sw_E} {C : sw_C} {k n : Nat} {l : Launch} {b L : Nat} {xs : Nat → Int32} (F : sw_H G C cL_law RL wsL_law) (hF : LF G C l b L xs) {h m o : Nat} {i : Int32} {b0 b1 : Nat} {np th : Int32} {hh : Int64} {S P : Nat → Int64} {ov : Nat → Int64} {fs : List Value} {wX wY : va_W} {S1 S2 : Type} {po : Int32 → S1 → Prop} {pr : Int32 → S2 → Prop} {npf thf : S2 → Int32} {hhf : S2 → Int64} {Sf Pf : S2 → Nat → Int64} {rm1 rm2 : Room}
    (ML : sw_M l G yX9_isFlowing wsX9_isFlowing rm1 [.ref h] ((h, .inr (9, fs)) :: wX) (sw_QI G po (fun _ => (h, .inr (9, fs)) :: wX)) 0 0) (hr1 : rm1.cells = 0 ∧ rm1.slots = 0 ∧ rm1.frames ≤ 11 ∧ rm1.locals ≤ 340)
    (MR : sw_M l G yX10_isFlowing wsX10_isFlowing rm2 [.ref m] (lw_rm G m b0 b1 np th hh S P) (sw_QI G pr (fun u => lw_rm G m b0 b1 (npf u) (thf u) (hhf u) (Sf u) (Pf u))) 0 0) (hr2 : rm2.cells = 0 ∧ rm2.slots = 0 ∧ rm2.frames ≤ 11 ∧ rm2.locals ≤ 340)
    (hk : k ≤ room_1.cells) (hn : n ≤ room_1.slots) (hA : ∀ r u r' u', po r u → pr r' u' → r = r')
    (kk : ∀ r u r' u', po r u → pr r' u' → SW G C k n (lw_rm G m b0 b1 (npf u') (thf u') (hhf u') (Sf u') (Pf u') ++ (lw_out G o ov :: ((((h, .inr (9, fs)) :: wX)) ++ wY))) [(4, .int i), (3, .ref o), (2, .ref m), (1, .ref h), (0, .ref b)] 1582 []) : SW G C k n (lw_rm G m b0 b1 np th hh S P ++ (lw_out G o ov :: ((((h, .inr (9, fs)) :: wX)) ++ wY))) [(4, .int i), (3, .ref o), (2, .ref m), (1, .ref h), (0, .ref b)] 1036 [] := by
  refine sw_aload_n (pc := 1036) F dL_law_1036 rfl 3 rfl ?_
  refine ly_calli (pc := 1037) (k' := k) (n' := n) (P := lw_rm G m b0 b1 np th hh S P ++ [lw_out G o ov]) (Q := (h, .inr (9, fs)) :: wX) (R := wY) F (sw_runV (R := room_1) (q0 := 0) (na := 0) (ci := 9) F hF.2.1 hF.2.2.1 ML (List.range' (lw_rm G m b0 b1 np th hh S P ++ [lw_out G o ov]).length (((h, .inr (9, fs)) :: wX) : va_W).length) (ly_map (lw_rm G m b0 b1 np th hh S P ++ [lw_out G o ov]) ((h, .inr (9, fs)) :: wX) wY) (ly_nd _ _) gL_law_X9_isFlowing rfl hr1.1 hr1.2.1 (by decide +kernel) ⟨Nat.succ_le_succ hr1.2.2.1, lw_room hr1.2.2.2 (Nat.le_of_ble_eq_true rfl)⟩ rfl rfl rfl rfl rfl (Nat.le_of_ble_eq_true rfl) dL_law_1037 hk hn) rfl rfl (fun r u hp => ?_)
  refine sw_aload_n (pc := 1040) F dL_law_1040 rfl 2 rfl ?_
  refine ly_calli (pc := 1041) (k' := k) (n' := n) (P := []) (Q := lw_rm G m b0 b1 np th hh S P) (R := lw_out G o ov :: (((h, .inr (9, fs)) :: wX) ++ wY)) F (sw_runV (R := room_1) (q0 := 0) (na := 0) (ci := 10) F hF.2.1 hF.2.2.1 MR (List.range' 0 3) (ly_map [] (lw_rm G m b0 b1 np th hh S P) (lw_out G o ov :: (((h, .inr (9, fs)) :: wX) ++ wY))) (ly_nd _ _) gL_law_X10_isFlowing rfl hr2.1 hr2.2.1 (by decide +kernel) ⟨Nat.succ_le_succ hr2.2.2.1, lw_room hr2.2.2.2 (Nat.le_of_ble_eq_true rfl)⟩ rfl rfl rfl rfl rfl (Nat.le_of_ble_eq_true rfl) dL_law_1041 hk hn) rfl rfl (fun r' u' hp' => ?_)
  have hA1 := hA r u r' u' hp hp'
  refine sw_icmp_eq (pc := 1044) (tgt := 1582) F dL_law_1044 (by decide) (fun _ => ?_) (fun y => absurd hA1 y)
  exact kk r u r' u' hp hp'
set_option maxHeartbeats 4000000 in
set_option maxRecDepth 100000 in
theorem law_c18 {G : sw_E} {C : sw_C} {k n : Nat} {l : Launch} {b L : Nat} {xs : Nat → Int32} (F : sw_H G C cL_law RL wsL_law) (hF : LF G C l b L xs) {h m o : Nat} {i : Int32} {a1 : Int32} (hi1 : vp_in (i + 1) L) (e1 : xs (i + 1).toNatClampNeg = a1) {b0 b1 : Nat} {np th : Int32} {hh : Int64} {S P : Nat → Int64} {ov : Nat → Int64} {wA wR : va_W} {mc ms : Nat} {S1 S2 : Type} {po : Int32 → S1 → Prop} {ovf : S1 → Nat → Int64} {wAf : S1 → va_W} {pr : Int64 → S2 → Prop} {npf thf : S2 → Int32} {hhf : S2 → Int64} {Sf Pf : S2 → Nat → Int64} {rm2 : Room}
    (ML : sy_M l G yL_total wsL_total ({ frames := 10, cells := mc, slots := ms, locals := 340 } : Room) [.ref h, .int a1, .ref o] (lw_out G o ov :: wA) (sw_QI G po (fun u => lw_out G o (ovf u) :: wAf u)) mc ms)
    (MR : sw_M l G yX10_total wsX10_total rm2 [.ref m, .int a1] (lw_rm G m b0 b1 np th hh S P) (sw_QL G pr (fun u => lw_rm G m b0 b1 (npf u) (thf u) (hhf u) (Sf u) (Pf u))) 0 0) (hr2 : rm2.cells = 0 ∧ rm2.slots = 0 ∧ rm2.frames ≤ 11 ∧ rm2.locals ≤ 340)
    (hk : k + mc ≤ room_1.cells) (hn : n + ms ≤ room_1.slots) (hA : ∀ r u r' u', po r u → pr r' u' → thf u' = r ∧ (r = 0 → ovf u 0 = r'))
    (kk : ∀ r u r' u', po r u → pr r' u' → SW G C (k + mc) (n + ms) (lw_rm G m b0 b1 (npf u') (thf u') (hhf u') (Sf u') (Pf u') ++ ((lw_out G o (ovf u) :: wAf u) ++ wR)) [(4, .int i), (3, .ref o), (2, .ref m), (1, .ref h), (0, .ref b)] 1582 []) : SW G C k n (lw_rm G m b0 b1 np th hh S P ++ ((lw_out G o ov :: wA) ++ wR)) [(4, .int i), (3, .ref o), (2, .ref m), (1, .ref h), (0, .ref b)] 1049 [] := by
  refine sw_aload_n (pc := 1049) F dL_law_1049 rfl 3 rfl ?_
  refine sw_aload_n (pc := 1050) F dL_law_1050 rfl 4 rfl ?_
  refine sw_iload (pc := 1051) F dL_law_1051 0 rfl ?_
  refine sw_iconst (pc := 1053) (v := 1) F dL_law_1053 rfl ?_
  refine sw_iadd (pc := 1054) F dL_law_1054 ?_
  refine ly_sld (pc := 1055) F hF.2.2.2.2.1 hF.2.2.2.2.2.1 hF.2.2.2.2.2.2 hi1 dL_law_1055 ?_
  refine sw_eqt (v := .int a1) (by rw [e1]) ?_
  refine sw_aload_n (pc := 1056) F dL_law_1056 rfl 1 rfl ?_
  refine ly_calliX (pc := 1057) (k' := k + mc) (n' := n + ms) (P := lw_rm G m b0 b1 np th hh S P) (Q := lw_out G o ov :: wA) (R := wR) F (ly_runS (Ro := room_1) (na := 3) F hF.2.2.2.1 hF.2.1 hF.2.2.1 ML (List.range' (lw_rm G m b0 b1 np th hh S P).length (lw_out G o ov :: wA).length) (ly_map (lw_rm G m b0 b1 np th hh S P) (lw_out G o ov :: wA) wR) (ly_nd _ _) gL_law_L_total rfl rfl rfl (by decide +kernel) ⟨Nat.le_of_ble_eq_true rfl, Nat.le_of_ble_eq_true rfl⟩ rfl rfl (Nat.le_of_ble_eq_true rfl) dL_law_1057 hk hn) rfl rfl (fun r u hp => ?_)
  refine sw_istore (pc := 1060) (lv' := [(5, .int r), (4, .int i), (3, .ref o), (2, .ref m), (1, .ref h), (0, .ref b)]) F hF.1 dL_law_1060 (by decide) rfl ?_
  refine sw_aload_n (pc := 1062) F dL_law_1062 rfl 3 rfl ?_
  refine sw_aload_n (pc := 1063) F dL_law_1063 rfl 5 rfl ?_
  refine sw_iload (pc := 1064) F dL_law_1064 1 rfl ?_
  refine sw_iconst (pc := 1066) (v := 1) F dL_law_1066 rfl ?_
  refine sw_iadd (pc := 1067) F dL_law_1067 ?_
  refine ly_sld (pc := 1068) F hF.2.2.2.2.1 hF.2.2.2.2.2.1 hF.2.2.2.2.2.2 hi1 dL_law_1068 ?_
  refine sw_eqt (v := .int a1) (by rw [e1]) ?_
  refine ly_calll (pc := 1069) (k' := k + mc) (n' := n + ms) (P := []) (Q := lw_rm G m b0 b1 np th hh S P) (R := (lw_out G o (ovf u) :: wAf u) ++ wR) F (sw_runV (R := room_1) (q0 := 0) (na := 1) (ci := 10) F hF.2.1 hF.2.2.1 MR (List.range' 0 3) (ly_map [] (lw_rm G m b0 b1 np th hh S P) ((lw_out G o (ovf u) :: wAf u) ++ wR)) (ly_nd _ _) gL_law_X10_total rfl hr2.1 hr2.2.1 (by decide +kernel) ⟨Nat.succ_le_succ hr2.2.2.1, lw_room hr2.2.2.2 (Nat.le_of_ble_eq_true rfl)⟩ rfl rfl rfl rfl rfl (Nat.le_of_ble_eq_true rfl) dL_law_1069 hk hn) rfl rfl (fun r' u' hp' => ?_)
  refine sw_lstore (pc := 1072) (lv' := [(6, .long r'), (5, .int r), (4, .int i), (3, .ref o), (2, .ref m), (1, .ref h), (0, .ref b)]) F hF.1 dL_law_1072 (by decide) rfl ?_
  refine sw_aload_n (pc := 1074) F dL_law_1074 rfl 4 rfl ?_
  refine ly_calli (pc := 1075) (k' := k + mc) (n' := n + ms) (P := []) (Q := lw_rm G m b0 b1 (npf u') (thf u') (hhf u') (Sf u') (Pf u')) (R := (lw_out G o (ovf u) :: wAf u) ++ wR) F (sw_runV (R := room_1) (q0 := 0) (na := 0) (ci := 10) F hF.2.1 hF.2.2.1 (k_X10_thrown l G m b0 b1 (npf u') (thf u') (hhf u') (Sf u') (Pf u')) (List.range' 0 3) (ly_map [] (lw_rm G m b0 b1 (npf u') (thf u') (hhf u') (Sf u') (Pf u')) ((lw_out G o (ovf u) :: wAf u) ++ wR)) (ly_nd _ _) gL_law_X10_thrown rfl rfl rfl (by decide +kernel) ⟨Nat.le_of_ble_eq_true rfl, Nat.le_of_ble_eq_true rfl⟩ rfl rfl rfl rfl rfl (Nat.le_of_ble_eq_true rfl) dL_law_1075 hk hn) rfl rfl (fun t u9 ht => ?_)
  have ht' : t = thf u' := ht
  obtain ⟨hA1, hA2⟩ := hA r u r' u' hp hp'
  rw [hA1] at ht'
  subst ht'
  refine sw_iload (pc := 1078) F dL_law_1078 1 rfl ?_
  refine sw_icmp_eq (pc := 1080) (tgt := 1085) F dL_law_1080 (by decide) (fun _ => ?_) (fun z => absurd rfl z)
  refine sw_iload (pc := 1085) F dL_law_1085 1 rfl ?_
  refine sw_if_ne (pc := 1087) (tgt := 1101) F dL_law_1087 (by decide) (fun _ => ?_) (fun z => ?_)
  · skip
    refine sw_lvs (is := [2, 3, 4, 5, 6]) (lv' := [(4, .int i), (3, .ref o), (2, .ref m), (1, .ref h), (0, .ref b)]) rfl ?_
    refine sw_goto (pc := 1101) (tgt := 1582) F dL_law_1101 (by decide) ?_
    exact kk t u r' u' hp hp'
  · skip
    refine sw_aload_n (pc := 1090) F dL_law_1090 rfl 3 rfl ?_
    refine sw_iconst (pc := 1091) (v := 0) F dL_law_1091 rfl ?_
    refine sw_lald (pc := 1092) F 3 rfl (sw_in rfl) dL_law_1092 ?_
    refine sw_lload (pc := 1093) F dL_law_1093 0 rfl ?_
    refine sw_lcmp_eq (pc := 1095) (tgt := 1101) F dL_law_1095 dL_law_1096 (by decide) (fun _ => ?_) (fun y => absurd (hA2 z) y)
    refine sw_lvs (is := [2, 3, 4, 5, 6]) (lv' := [(4, .int i), (3, .ref o), (2, .ref m), (1, .ref h), (0, .ref b)]) rfl ?_
    refine sw_goto (pc := 1101) (tgt := 1582) F dL_law_1101 (by decide) ?_
    exact kk t u r' u' hp hp'
set_option maxHeartbeats 4000000 in
set_option maxRecDepth 100000 in
theorem law_c19 {G : sw_E} {C : sw_C} {k n : Nat} {l : Launch} {b L : Nat} {xs : Nat → Int32} (F : sw_H G C cL_law RL wsL_law) (hF : LF G C l b L xs) {h m o : Nat} {i : Int32} {b0 b1 : Nat} {np th : Int32} {hh : Int64} {S P : Nat → Int64} {ov : Nat → Int64} {fs : List Value} {wX wY : va_W} {S1 S2 : Type} {po : Int32 → S1 → Prop} {pr : Int32 → S2 → Prop} {npf thf : S2 → Int32} {hhf : S2 → Int64} {Sf Pf : S2 → Nat → Int64} {rm1 rm2 : Room}
    (ML : sw_M l G yX9_valve wsX9_valve rm1 [.ref h] ((h, .inr (9, fs)) :: wX) (sw_QI G po (fun _ => (h, .inr (9, fs)) :: wX)) 0 0) (hr1 : rm1.cells = 0 ∧ rm1.slots = 0 ∧ rm1.frames ≤ 11 ∧ rm1.locals ≤ 340)
    (MR : sw_M l G yX10_valve wsX10_valve rm2 [.ref m] (lw_rm G m b0 b1 np th hh S P) (sw_QI G pr (fun u => lw_rm G m b0 b1 (npf u) (thf u) (hhf u) (Sf u) (Pf u))) 0 0) (hr2 : rm2.cells = 0 ∧ rm2.slots = 0 ∧ rm2.frames ≤ 11 ∧ rm2.locals ≤ 340)
    (hk : k ≤ room_1.cells) (hn : n ≤ room_1.slots) (hA : ∀ r u r' u', po r u → pr r' u' → r = r')
    (kk : ∀ r u r' u', po r u → pr r' u' → SW G C k n (lw_rm G m b0 b1 (npf u') (thf u') (hhf u') (Sf u') (Pf u') ++ (lw_out G o ov :: ((((h, .inr (9, fs)) :: wX)) ++ wY))) [(4, .int i), (3, .ref o), (2, .ref m), (1, .ref h), (0, .ref b)] 1582 []) : SW G C k n (lw_rm G m b0 b1 np th hh S P ++ (lw_out G o ov :: ((((h, .inr (9, fs)) :: wX)) ++ wY))) [(4, .int i), (3, .ref o), (2, .ref m), (1, .ref h), (0, .ref b)] 1104 [] := by
  refine sw_aload_n (pc := 1104) F dL_law_1104 rfl 3 rfl ?_
  refine ly_calli (pc := 1105) (k' := k) (n' := n) (P := lw_rm G m b0 b1 np th hh S P ++ [lw_out G o ov]) (Q := (h, .inr (9, fs)) :: wX) (R := wY) F (sw_runV (R := room_1) (q0 := 0) (na := 0) (ci := 9) F hF.2.1 hF.2.2.1 ML (List.range' (lw_rm G m b0 b1 np th hh S P ++ [lw_out G o ov]).length (((h, .inr (9, fs)) :: wX) : va_W).length) (ly_map (lw_rm G m b0 b1 np th hh S P ++ [lw_out G o ov]) ((h, .inr (9, fs)) :: wX) wY) (ly_nd _ _) gL_law_X9_valve rfl hr1.1 hr1.2.1 (by decide +kernel) ⟨Nat.succ_le_succ hr1.2.2.1, lw_room hr1.2.2.2 (Nat.le_of_ble_eq_true rfl)⟩ rfl rfl rfl rfl rfl (Nat.le_of_ble_eq_true rfl) dL_law_1105 hk hn) rfl rfl (fun r u hp => ?_)
  refine sw_aload_n (pc := 1108) F dL_law_1108 rfl 2 rfl ?_
  refine ly_calli (pc := 1109) (k' := k) (n' := n) (P := []) (Q := lw_rm G m b0 b1 np th hh S P) (R := lw_out G o ov :: (((h, .inr (9, fs)) :: wX) ++ wY)) F (sw_runV (R := room_1) (q0 := 0) (na := 0) (ci := 10) F hF.2.1 hF.2.2.1 MR (List.range' 0 3) (ly_map [] (lw_rm G m b0 b1 np th hh S P) (lw_out G o ov :: (((h, .inr (9, fs)) :: wX) ++ wY))) (ly_nd _ _) gL_law_X10_valve rfl hr2.1 hr2.2.1 (by decide +kernel) ⟨Nat.succ_le_succ hr2.2.2.1, lw_room hr2.2.2.2 (Nat.le_of_ble_eq_true rfl)⟩ rfl rfl rfl rfl rfl (Nat.le_of_ble_eq_true rfl) dL_law_1109 hk hn) rfl rfl (fun r' u' hp' => ?_)
  have hA1 := hA r u r' u' hp hp'
  refine sw_icmp_eq (pc := 1112) (tgt := 1582) F dL_law_1112 (by decide) (fun _ => ?_) (fun y => absurd hA1 y)
  exact kk r u r' u' hp hp'
set_option maxHeartbeats 4000000 in
set_option maxRecDepth 100000 in
theorem law_c20 {G : sw_E} {C : sw_C} {k n : Nat} {l : Launch} {b L : Nat} {xs : Nat → Int32} (F : sw_H G C cL_law RL wsL_law) (hF : LF G C l b L xs) {h m o : Nat} {i : Int32} {a1 a2 a3 : Int32} (hi1 : vp_in (i + 1) L) (e1 : xs (i + 1).toNatClampNeg = a1) (hi2 : vp_in (i + 2) L) (e2 : xs (i + 2).toNatClampNeg = a2) (hi3 : vp_in (i + 3) L) (e3 : xs (i + 3).toNatClampNeg = a3) {b0 b1 : Nat} {np th : Int32} {hh : Int64} {S P : Nat → Int64} {ov : Nat → Int64} {wA wR : va_W} {mc ms : Nat} {S1 S2 : Type} {po : Int32 → S1 → Prop} {ovf : S1 → Nat → Int64} {wAf : S1 → va_W} {pr : Int64 → S2 → Prop} {npf thf : S2 → Int32} {hhf : S2 → Int64} {Sf Pf : S2 → Nat → Int64} {rm2 : Room}
    (ML : sy_M l G yL_flowFor wsL_flowFor ({ frames := 10, cells := mc, slots := ms, locals := 340 } : Room) [.ref h, .int a1, .int a2, .int a3, .ref o] (lw_out G o ov :: wA) (sw_QI G po (fun u => lw_out G o (ovf u) :: wAf u)) mc ms)
    (MR : sw_M l G yX10_flowFor wsX10_flowFor rm2 [.ref m, .int a1, .int a2, .int a3] (lw_rm G m b0 b1 np th hh S P) (sw_QL G pr (fun u => lw_rm G m b0 b1 (npf u) (thf u) (hhf u) (Sf u) (Pf u))) 0 0) (hr2 : rm2.cells = 0 ∧ rm2.slots = 0 ∧ rm2.frames ≤ 11 ∧ rm2.locals ≤ 340)
    (hk : k + mc ≤ room_1.cells) (hn : n + ms ≤ room_1.slots) (hA : ∀ r u r' u', po r u → pr r' u' → thf u' = r ∧ (r = 0 → ovf u 0 = r'))
    (kk : ∀ r u r' u', po r u → pr r' u' → SW G C (k + mc) (n + ms) (lw_rm G m b0 b1 (npf u') (thf u') (hhf u') (Sf u') (Pf u') ++ ((lw_out G o (ovf u) :: wAf u) ++ wR)) [(4, .int i), (3, .ref o), (2, .ref m), (1, .ref h), (0, .ref b)] 1582 []) : SW G C k n (lw_rm G m b0 b1 np th hh S P ++ ((lw_out G o ov :: wA) ++ wR)) [(4, .int i), (3, .ref o), (2, .ref m), (1, .ref h), (0, .ref b)] 1117 [] := by
  refine sw_aload_n (pc := 1117) F dL_law_1117 rfl 3 rfl ?_
  refine sw_aload_n (pc := 1118) F dL_law_1118 rfl 4 rfl ?_
  refine sw_iload (pc := 1119) F dL_law_1119 0 rfl ?_
  refine sw_iconst (pc := 1121) (v := 1) F dL_law_1121 rfl ?_
  refine sw_iadd (pc := 1122) F dL_law_1122 ?_
  refine ly_sld (pc := 1123) F hF.2.2.2.2.1 hF.2.2.2.2.2.1 hF.2.2.2.2.2.2 hi1 dL_law_1123 ?_
  refine sw_eqt (v := .int a1) (by rw [e1]) ?_
  refine sw_aload_n (pc := 1124) F dL_law_1124 rfl 4 rfl ?_
  refine sw_iload (pc := 1125) F dL_law_1125 0 rfl ?_
  refine sw_iconst (pc := 1127) (v := 2) F dL_law_1127 rfl ?_
  refine sw_iadd (pc := 1128) F dL_law_1128 ?_
  refine ly_sld (pc := 1129) F hF.2.2.2.2.1 hF.2.2.2.2.2.1 hF.2.2.2.2.2.2 hi2 dL_law_1129 ?_
  refine sw_eqt (v := .int a2) (by rw [e2]) ?_
  refine sw_aload_n (pc := 1130) F dL_law_1130 rfl 4 rfl ?_
  refine sw_iload (pc := 1131) F dL_law_1131 0 rfl ?_
  refine sw_iconst (pc := 1133) (v := 3) F dL_law_1133 rfl ?_
  refine sw_iadd (pc := 1134) F dL_law_1134 ?_
  refine ly_sld (pc := 1135) F hF.2.2.2.2.1 hF.2.2.2.2.2.1 hF.2.2.2.2.2.2 hi3 dL_law_1135 ?_
  refine sw_eqt (v := .int a3) (by rw [e3]) ?_
  refine sw_aload_n (pc := 1136) F dL_law_1136 rfl 1 rfl ?_
  refine ly_calliX (pc := 1137) (k' := k + mc) (n' := n + ms) (P := lw_rm G m b0 b1 np th hh S P) (Q := lw_out G o ov :: wA) (R := wR) F (ly_runS (Ro := room_1) (na := 5) F hF.2.2.2.1 hF.2.1 hF.2.2.1 ML (List.range' (lw_rm G m b0 b1 np th hh S P).length (lw_out G o ov :: wA).length) (ly_map (lw_rm G m b0 b1 np th hh S P) (lw_out G o ov :: wA) wR) (ly_nd _ _) gL_law_L_flowFor rfl rfl rfl (by decide +kernel) ⟨Nat.le_of_ble_eq_true rfl, Nat.le_of_ble_eq_true rfl⟩ rfl rfl (Nat.le_of_ble_eq_true rfl) dL_law_1137 hk hn) rfl rfl (fun r u hp => ?_)
  refine sw_istore (pc := 1140) (lv' := [(5, .int r), (4, .int i), (3, .ref o), (2, .ref m), (1, .ref h), (0, .ref b)]) F hF.1 dL_law_1140 (by decide) rfl ?_
  refine sw_aload_n (pc := 1142) F dL_law_1142 rfl 3 rfl ?_
  refine sw_aload_n (pc := 1143) F dL_law_1143 rfl 5 rfl ?_
  refine sw_iload (pc := 1144) F dL_law_1144 1 rfl ?_
  refine sw_iconst (pc := 1146) (v := 1) F dL_law_1146 rfl ?_
  refine sw_iadd (pc := 1147) F dL_law_1147 ?_
  refine ly_sld (pc := 1148) F hF.2.2.2.2.1 hF.2.2.2.2.2.1 hF.2.2.2.2.2.2 hi1 dL_law_1148 ?_
  refine sw_eqt (v := .int a1) (by rw [e1]) ?_
  refine sw_aload_n (pc := 1149) F dL_law_1149 rfl 5 rfl ?_
  refine sw_iload (pc := 1150) F dL_law_1150 1 rfl ?_
  refine sw_iconst (pc := 1152) (v := 2) F dL_law_1152 rfl ?_
  refine sw_iadd (pc := 1153) F dL_law_1153 ?_
  refine ly_sld (pc := 1154) F hF.2.2.2.2.1 hF.2.2.2.2.2.1 hF.2.2.2.2.2.2 hi2 dL_law_1154 ?_
  refine sw_eqt (v := .int a2) (by rw [e2]) ?_
  refine sw_aload_n (pc := 1155) F dL_law_1155 rfl 5 rfl ?_
  refine sw_iload (pc := 1156) F dL_law_1156 1 rfl ?_
  refine sw_iconst (pc := 1158) (v := 3) F dL_law_1158 rfl ?_
  refine sw_iadd (pc := 1159) F dL_law_1159 ?_
  refine ly_sld (pc := 1160) F hF.2.2.2.2.1 hF.2.2.2.2.2.1 hF.2.2.2.2.2.2 hi3 dL_law_1160 ?_
  refine sw_eqt (v := .int a3) (by rw [e3]) ?_
  refine ly_calll (pc := 1161) (k' := k + mc) (n' := n + ms) (P := []) (Q := lw_rm G m b0 b1 np th hh S P) (R := (lw_out G o (ovf u) :: wAf u) ++ wR) F (sw_runV (R := room_1) (q0 := 0) (na := 3) (ci := 10) F hF.2.1 hF.2.2.1 MR (List.range' 0 3) (ly_map [] (lw_rm G m b0 b1 np th hh S P) ((lw_out G o (ovf u) :: wAf u) ++ wR)) (ly_nd _ _) gL_law_X10_flowFor rfl hr2.1 hr2.2.1 (by decide +kernel) ⟨Nat.succ_le_succ hr2.2.2.1, lw_room hr2.2.2.2 (Nat.le_of_ble_eq_true rfl)⟩ rfl rfl rfl rfl rfl (Nat.le_of_ble_eq_true rfl) dL_law_1161 hk hn) rfl rfl (fun r' u' hp' => ?_)
  refine sw_lstore (pc := 1164) (lv' := [(6, .long r'), (5, .int r), (4, .int i), (3, .ref o), (2, .ref m), (1, .ref h), (0, .ref b)]) F hF.1 dL_law_1164 (by decide) rfl ?_
  refine sw_aload_n (pc := 1166) F dL_law_1166 rfl 4 rfl ?_
  refine ly_calli (pc := 1167) (k' := k + mc) (n' := n + ms) (P := []) (Q := lw_rm G m b0 b1 (npf u') (thf u') (hhf u') (Sf u') (Pf u')) (R := (lw_out G o (ovf u) :: wAf u) ++ wR) F (sw_runV (R := room_1) (q0 := 0) (na := 0) (ci := 10) F hF.2.1 hF.2.2.1 (k_X10_thrown l G m b0 b1 (npf u') (thf u') (hhf u') (Sf u') (Pf u')) (List.range' 0 3) (ly_map [] (lw_rm G m b0 b1 (npf u') (thf u') (hhf u') (Sf u') (Pf u')) ((lw_out G o (ovf u) :: wAf u) ++ wR)) (ly_nd _ _) gL_law_X10_thrown rfl rfl rfl (by decide +kernel) ⟨Nat.le_of_ble_eq_true rfl, Nat.le_of_ble_eq_true rfl⟩ rfl rfl rfl rfl rfl (Nat.le_of_ble_eq_true rfl) dL_law_1167 hk hn) rfl rfl (fun t u9 ht => ?_)
  have ht' : t = thf u' := ht
  obtain ⟨hA1, hA2⟩ := hA r u r' u' hp hp'
  rw [hA1] at ht'
  subst ht'
  refine sw_iload (pc := 1170) F dL_law_1170 1 rfl ?_
  refine sw_icmp_eq (pc := 1172) (tgt := 1177) F dL_law_1172 (by decide) (fun _ => ?_) (fun z => absurd rfl z)
  refine sw_iload (pc := 1177) F dL_law_1177 1 rfl ?_
  refine sw_if_ne (pc := 1179) (tgt := 1193) F dL_law_1179 (by decide) (fun _ => ?_) (fun z => ?_)
  · skip
    refine sw_lvs (is := [2, 3, 4, 5, 6]) (lv' := [(4, .int i), (3, .ref o), (2, .ref m), (1, .ref h), (0, .ref b)]) rfl ?_
    refine sw_goto (pc := 1193) (tgt := 1582) F dL_law_1193 (by decide) ?_
    exact kk t u r' u' hp hp'
  · skip
    refine sw_aload_n (pc := 1182) F dL_law_1182 rfl 3 rfl ?_
    refine sw_iconst (pc := 1183) (v := 0) F dL_law_1183 rfl ?_
    refine sw_lald (pc := 1184) F 3 rfl (sw_in rfl) dL_law_1184 ?_
    refine sw_lload (pc := 1185) F dL_law_1185 0 rfl ?_
    refine sw_lcmp_eq (pc := 1187) (tgt := 1193) F dL_law_1187 dL_law_1188 (by decide) (fun _ => ?_) (fun y => absurd (hA2 z) y)
    refine sw_lvs (is := [2, 3, 4, 5, 6]) (lv' := [(4, .int i), (3, .ref o), (2, .ref m), (1, .ref h), (0, .ref b)]) rfl ?_
    refine sw_goto (pc := 1193) (tgt := 1582) F dL_law_1193 (by decide) ?_
    exact kk t u r' u' hp hp'
set_option maxHeartbeats 4000000 in
set_option maxRecDepth 100000 in
theorem law_c21 {G : sw_E} {C : sw_C} {k n : Nat} {l : Launch} {b L : Nat} {xs : Nat → Int32} (F : sw_H G C cL_law RL wsL_law) (hF : LF G C l b L xs) {h m o : Nat} {i : Int32} {a1 a2 : Int32} (hi1 : vp_in (i + 1) L) (e1 : xs (i + 1).toNatClampNeg = a1) (hi2 : vp_in (i + 2) L) (e2 : xs (i + 2).toNatClampNeg = a2) {a : Int64} (ha : (a1.toInt64 <<< ((32 : Int32).toInt64 &&& 63) ||| a2.toInt64 &&& 4294967295) = a) {b0 b1 : Nat} {np th : Int32} {hh : Int64} {S P : Nat → Int64} {ov : Nat → Int64} {wA wR : va_W} {mc ms : Nat} {S1 S2 : Type} {po : Int32 → S1 → Prop} {ovf : S1 → Nat → Int64} {wAf : S1 → va_W} {pr : Int32 → S2 → Prop} {npf thf : S2 → Int32} {hhf : S2 → Int64} {Sf Pf : S2 → Nat → Int64} {rm2 : Room}
    (ML : sy_M l G yL_differentialFor wsL_differentialFor ({ frames := 10, cells := mc, slots := ms, locals := 340 } : Room) [.ref h, .long a, .ref o] (lw_out G o ov :: wA) (sw_QI G po (fun u => lw_out G o (ovf u) :: wAf u)) mc ms)
    (MR : sw_M l G yX10_differentialFor wsX10_differentialFor rm2 [.ref m, .long a] (lw_rm G m b0 b1 np th hh S P) (sw_QI G pr (fun u => lw_rm G m b0 b1 (npf u) (thf u) (hhf u) (Sf u) (Pf u))) 0 0) (hr2 : rm2.cells = 0 ∧ rm2.slots = 0 ∧ rm2.frames ≤ 11 ∧ rm2.locals ≤ 340)
    (hk : k + mc ≤ room_1.cells) (hn : n + ms ≤ room_1.slots) (hA : ∀ r u r' u', po r u → pr r' u' → thf u' = r ∧ (r = 0 → ovf u 0 = r'.toInt64))
    (kk : ∀ r u r' u', po r u → pr r' u' → SW G C (k + mc) (n + ms) (lw_rm G m b0 b1 (npf u') (thf u') (hhf u') (Sf u') (Pf u') ++ ((lw_out G o (ovf u) :: wAf u) ++ wR)) [(4, .int i), (3, .ref o), (2, .ref m), (1, .ref h), (0, .ref b)] 1582 []) : SW G C k n (lw_rm G m b0 b1 np th hh S P ++ ((lw_out G o ov :: wA) ++ wR)) [(4, .int i), (3, .ref o), (2, .ref m), (1, .ref h), (0, .ref b)] 1196 [] := by
  refine sw_aload_n (pc := 1196) F dL_law_1196 rfl 3 rfl ?_
  refine sw_aload_n (pc := 1197) F dL_law_1197 rfl 4 rfl ?_
  refine sw_iload (pc := 1198) F dL_law_1198 0 rfl ?_
  refine sw_iconst (pc := 1200) (v := 1) F dL_law_1200 rfl ?_
  refine sw_iadd (pc := 1201) F dL_law_1201 ?_
  refine ly_sld (pc := 1202) F hF.2.2.2.2.1 hF.2.2.2.2.2.1 hF.2.2.2.2.2.2 hi1 dL_law_1202 ?_
  refine sw_eqt (v := .int a1) (by rw [e1]) ?_
  refine sw_i2l (pc := 1203) F dL_law_1203 rfl ?_
  refine sw_bipush (pc := 1204) (v := 32) F dL_law_1204 rfl ?_
  refine sw_lshl (pc := 1206) F dL_law_1206 ?_
  refine sw_aload_n (pc := 1207) F dL_law_1207 rfl 4 rfl ?_
  refine sw_iload (pc := 1208) F dL_law_1208 0 rfl ?_
  refine sw_iconst (pc := 1210) (v := 2) F dL_law_1210 rfl ?_
  refine sw_iadd (pc := 1211) F dL_law_1211 ?_
  refine ly_sld (pc := 1212) F hF.2.2.2.2.1 hF.2.2.2.2.2.1 hF.2.2.2.2.2.2 hi2 dL_law_1212 ?_
  refine sw_eqt (v := .int a2) (by rw [e2]) ?_
  refine sw_i2l (pc := 1213) F dL_law_1213 rfl ?_
  refine sw_ldc2 (pc := 1214) (v := 4294967295) F (q0_law_ldc) dL_law_1214 ?_
  refine sw_land (pc := 1217) F dL_law_1217 ?_
  refine sw_lor (pc := 1218) F dL_law_1218 ?_
  refine sw_eqt (v := .long a) (by rw [← ha]) ?_
  refine sw_aload_n (pc := 1219) F dL_law_1219 rfl 1 rfl ?_
  refine ly_calliX (pc := 1220) (k' := k + mc) (n' := n + ms) (P := lw_rm G m b0 b1 np th hh S P) (Q := lw_out G o ov :: wA) (R := wR) F (ly_runS (Ro := room_1) (na := 3) F hF.2.2.2.1 hF.2.1 hF.2.2.1 ML (List.range' (lw_rm G m b0 b1 np th hh S P).length (lw_out G o ov :: wA).length) (ly_map (lw_rm G m b0 b1 np th hh S P) (lw_out G o ov :: wA) wR) (ly_nd _ _) gL_law_L_differentialFor rfl rfl rfl (by decide +kernel) ⟨Nat.le_of_ble_eq_true rfl, Nat.le_of_ble_eq_true rfl⟩ rfl rfl (Nat.le_of_ble_eq_true rfl) dL_law_1220 hk hn) rfl rfl (fun r u hp => ?_)
  refine sw_istore (pc := 1223) (lv' := [(5, .int r), (4, .int i), (3, .ref o), (2, .ref m), (1, .ref h), (0, .ref b)]) F hF.1 dL_law_1223 (by decide) rfl ?_
  refine sw_aload_n (pc := 1225) F dL_law_1225 rfl 3 rfl ?_
  refine sw_aload_n (pc := 1226) F dL_law_1226 rfl 5 rfl ?_
  refine sw_iload (pc := 1227) F dL_law_1227 1 rfl ?_
  refine sw_iconst (pc := 1229) (v := 1) F dL_law_1229 rfl ?_
  refine sw_iadd (pc := 1230) F dL_law_1230 ?_
  refine ly_sld (pc := 1231) F hF.2.2.2.2.1 hF.2.2.2.2.2.1 hF.2.2.2.2.2.2 hi1 dL_law_1231 ?_
  refine sw_eqt (v := .int a1) (by rw [e1]) ?_
  refine sw_i2l (pc := 1232) F dL_law_1232 rfl ?_
  refine sw_bipush (pc := 1233) (v := 32) F dL_law_1233 rfl ?_
  refine sw_lshl (pc := 1235) F dL_law_1235 ?_
  refine sw_aload_n (pc := 1236) F dL_law_1236 rfl 5 rfl ?_
  refine sw_iload (pc := 1237) F dL_law_1237 1 rfl ?_
  refine sw_iconst (pc := 1239) (v := 2) F dL_law_1239 rfl ?_
  refine sw_iadd (pc := 1240) F dL_law_1240 ?_
  refine ly_sld (pc := 1241) F hF.2.2.2.2.1 hF.2.2.2.2.2.1 hF.2.2.2.2.2.2 hi2 dL_law_1241 ?_
  refine sw_eqt (v := .int a2) (by rw [e2]) ?_
  refine sw_i2l (pc := 1242) F dL_law_1242 rfl ?_
  refine sw_ldc2 (pc := 1243) (v := 4294967295) F (q0_law_ldc) dL_law_1243 ?_
  refine sw_land (pc := 1246) F dL_law_1246 ?_
  refine sw_lor (pc := 1247) F dL_law_1247 ?_
  refine sw_eqt (v := .long a) (by rw [← ha]) ?_
  refine ly_calli (pc := 1248) (k' := k + mc) (n' := n + ms) (P := []) (Q := lw_rm G m b0 b1 np th hh S P) (R := (lw_out G o (ovf u) :: wAf u) ++ wR) F (sw_runV (R := room_1) (q0 := 0) (na := 1) (ci := 10) F hF.2.1 hF.2.2.1 MR (List.range' 0 3) (ly_map [] (lw_rm G m b0 b1 np th hh S P) ((lw_out G o (ovf u) :: wAf u) ++ wR)) (ly_nd _ _) gL_law_X10_differentialFor rfl hr2.1 hr2.2.1 (by decide +kernel) ⟨Nat.succ_le_succ hr2.2.2.1, lw_room hr2.2.2.2 (Nat.le_of_ble_eq_true rfl)⟩ rfl rfl rfl rfl rfl (Nat.le_of_ble_eq_true rfl) dL_law_1248 hk hn) rfl rfl (fun r' u' hp' => ?_)
  refine sw_istore (pc := 1251) (lv' := [(6, .int r'), (5, .int r), (4, .int i), (3, .ref o), (2, .ref m), (1, .ref h), (0, .ref b)]) F hF.1 dL_law_1251 (by decide) rfl ?_
  refine sw_aload_n (pc := 1253) F dL_law_1253 rfl 4 rfl ?_
  refine ly_calli (pc := 1254) (k' := k + mc) (n' := n + ms) (P := []) (Q := lw_rm G m b0 b1 (npf u') (thf u') (hhf u') (Sf u') (Pf u')) (R := (lw_out G o (ovf u) :: wAf u) ++ wR) F (sw_runV (R := room_1) (q0 := 0) (na := 0) (ci := 10) F hF.2.1 hF.2.2.1 (k_X10_thrown l G m b0 b1 (npf u') (thf u') (hhf u') (Sf u') (Pf u')) (List.range' 0 3) (ly_map [] (lw_rm G m b0 b1 (npf u') (thf u') (hhf u') (Sf u') (Pf u')) ((lw_out G o (ovf u) :: wAf u) ++ wR)) (ly_nd _ _) gL_law_X10_thrown rfl rfl rfl (by decide +kernel) ⟨Nat.le_of_ble_eq_true rfl, Nat.le_of_ble_eq_true rfl⟩ rfl rfl rfl rfl rfl (Nat.le_of_ble_eq_true rfl) dL_law_1254 hk hn) rfl rfl (fun t u9 ht => ?_)
  have ht' : t = thf u' := ht
  obtain ⟨hA1, hA2⟩ := hA r u r' u' hp hp'
  rw [hA1] at ht'
  subst ht'
  refine sw_iload (pc := 1257) F dL_law_1257 1 rfl ?_
  refine sw_icmp_eq (pc := 1259) (tgt := 1264) F dL_law_1259 (by decide) (fun _ => ?_) (fun z => absurd rfl z)
  refine sw_iload (pc := 1264) F dL_law_1264 1 rfl ?_
  refine sw_if_ne (pc := 1266) (tgt := 1281) F dL_law_1266 (by decide) (fun _ => ?_) (fun z => ?_)
  · skip
    refine sw_lvs (is := [2, 3, 4, 5, 6]) (lv' := [(4, .int i), (3, .ref o), (2, .ref m), (1, .ref h), (0, .ref b)]) rfl ?_
    refine sw_goto (pc := 1281) (tgt := 1582) F dL_law_1281 (by decide) ?_
    exact kk t u r' u' hp hp'
  · skip
    refine sw_aload_n (pc := 1269) F dL_law_1269 rfl 3 rfl ?_
    refine sw_iconst (pc := 1270) (v := 0) F dL_law_1270 rfl ?_
    refine sw_lald (pc := 1271) F 3 rfl (sw_in rfl) dL_law_1271 ?_
    refine sw_iload (pc := 1272) F dL_law_1272 0 rfl ?_
    refine sw_i2l (pc := 1274) F dL_law_1274 rfl ?_
    refine sw_lcmp_eq (pc := 1275) (tgt := 1281) F dL_law_1275 dL_law_1276 (by decide) (fun _ => ?_) (fun y => absurd (hA2 z) y)
    refine sw_lvs (is := [2, 3, 4, 5, 6]) (lv' := [(4, .int i), (3, .ref o), (2, .ref m), (1, .ref h), (0, .ref b)]) rfl ?_
    refine sw_goto (pc := 1281) (tgt := 1582) F dL_law_1281 (by decide) ?_
    exact kk t u r' u' hp hp'
set_option maxHeartbeats 4000000 in
set_option maxRecDepth 100000 in
theorem law_c22 {G : sw_E} {C : sw_C} {k n : Nat} {l : Launch} {b L : Nat} {xs : Nat → Int32} (F : sw_H G C cL_law RL wsL_law) (hF : LF G C l b L xs) {h m o : Nat} {i : Int32} {b0 b1 : Nat} {np th : Int32} {hh : Int64} {S P : Nat → Int64} {ov : Nat → Int64} {fs : List Value} {wX wY : va_W} {S1 S2 : Type} {po : Int32 → S1 → Prop} {pr : Int32 → S2 → Prop} {npf thf : S2 → Int32} {hhf : S2 → Int64} {Sf Pf : S2 → Nat → Int64} {rm1 rm2 : Room}
    (ML : sw_M l G yX9_hours wsX9_hours rm1 [.ref h] ((h, .inr (9, fs)) :: wX) (sw_QI G po (fun _ => (h, .inr (9, fs)) :: wX)) 0 0) (hr1 : rm1.cells = 0 ∧ rm1.slots = 0 ∧ rm1.frames ≤ 11 ∧ rm1.locals ≤ 340)
    (MR : sw_M l G yX10_hours wsX10_hours rm2 [.ref m] (lw_rm G m b0 b1 np th hh S P) (sw_QI G pr (fun u => lw_rm G m b0 b1 (npf u) (thf u) (hhf u) (Sf u) (Pf u))) 0 0) (hr2 : rm2.cells = 0 ∧ rm2.slots = 0 ∧ rm2.frames ≤ 11 ∧ rm2.locals ≤ 340)
    (hk : k ≤ room_1.cells) (hn : n ≤ room_1.slots) (hA : ∀ r u r' u', po r u → pr r' u' → r = r')
    (kk : ∀ r u r' u', po r u → pr r' u' → SW G C k n (lw_rm G m b0 b1 (npf u') (thf u') (hhf u') (Sf u') (Pf u') ++ (lw_out G o ov :: ((((h, .inr (9, fs)) :: wX)) ++ wY))) [(4, .int i), (3, .ref o), (2, .ref m), (1, .ref h), (0, .ref b)] 1582 []) : SW G C k n (lw_rm G m b0 b1 np th hh S P ++ (lw_out G o ov :: ((((h, .inr (9, fs)) :: wX)) ++ wY))) [(4, .int i), (3, .ref o), (2, .ref m), (1, .ref h), (0, .ref b)] 1284 [] := by
  refine sw_aload_n (pc := 1284) F dL_law_1284 rfl 3 rfl ?_
  refine ly_calli (pc := 1285) (k' := k) (n' := n) (P := lw_rm G m b0 b1 np th hh S P ++ [lw_out G o ov]) (Q := (h, .inr (9, fs)) :: wX) (R := wY) F (sw_runV (R := room_1) (q0 := 0) (na := 0) (ci := 9) F hF.2.1 hF.2.2.1 ML (List.range' (lw_rm G m b0 b1 np th hh S P ++ [lw_out G o ov]).length (((h, .inr (9, fs)) :: wX) : va_W).length) (ly_map (lw_rm G m b0 b1 np th hh S P ++ [lw_out G o ov]) ((h, .inr (9, fs)) :: wX) wY) (ly_nd _ _) gL_law_X9_hours rfl hr1.1 hr1.2.1 (by decide +kernel) ⟨Nat.succ_le_succ hr1.2.2.1, lw_room hr1.2.2.2 (Nat.le_of_ble_eq_true rfl)⟩ rfl rfl rfl rfl rfl (Nat.le_of_ble_eq_true rfl) dL_law_1285 hk hn) rfl rfl (fun r u hp => ?_)
  refine sw_aload_n (pc := 1288) F dL_law_1288 rfl 2 rfl ?_
  refine ly_calli (pc := 1289) (k' := k) (n' := n) (P := []) (Q := lw_rm G m b0 b1 np th hh S P) (R := lw_out G o ov :: (((h, .inr (9, fs)) :: wX) ++ wY)) F (sw_runV (R := room_1) (q0 := 0) (na := 0) (ci := 10) F hF.2.1 hF.2.2.1 MR (List.range' 0 3) (ly_map [] (lw_rm G m b0 b1 np th hh S P) (lw_out G o ov :: (((h, .inr (9, fs)) :: wX) ++ wY))) (ly_nd _ _) gL_law_X10_hours rfl hr2.1 hr2.2.1 (by decide +kernel) ⟨Nat.succ_le_succ hr2.2.2.1, lw_room hr2.2.2.2 (Nat.le_of_ble_eq_true rfl)⟩ rfl rfl rfl rfl rfl (Nat.le_of_ble_eq_true rfl) dL_law_1289 hk hn) rfl rfl (fun r' u' hp' => ?_)
  have hA1 := hA r u r' u' hp hp'
  refine sw_icmp_eq (pc := 1292) (tgt := 1582) F dL_law_1292 (by decide) (fun _ => ?_) (fun y => absurd hA1 y)
  exact kk r u r' u' hp hp'
set_option maxHeartbeats 4000000 in
set_option maxRecDepth 100000 in
theorem law_c23 {G : sw_E} {C : sw_C} {k n : Nat} {l : Launch} {b L : Nat} {xs : Nat → Int32} (F : sw_H G C cL_law RL wsL_law) (hF : LF G C l b L xs) {h m o : Nat} {i : Int32} {a1 a2 : Int32} (hi1 : vp_in (i + 1) L) (e1 : xs (i + 1).toNatClampNeg = a1) (hi2 : vp_in (i + 2) L) (e2 : xs (i + 2).toNatClampNeg = a2) {b0 b1 : Nat} {np th : Int32} {hh : Int64} {S P : Nat → Int64} {ov : Nat → Int64} {wA wR : va_W} {mc ms : Nat} {S1 S2 : Type} {po : Int32 → S1 → Prop} {ovf : S1 → Nat → Int64} {wAf : S1 → va_W} {pr : Int64 → S2 → Prop} {npf thf : S2 → Int32} {hhf : S2 → Int64} {Sf Pf : S2 → Nat → Int64} {rm2 : Room}
    (ML : sy_M l G yL_hour wsL_hour ({ frames := 10, cells := mc, slots := ms, locals := 340 } : Room) [.ref h, .int a1, .int a2, .ref o] (lw_out G o ov :: wA) (sw_QI G po (fun u => lw_out G o (ovf u) :: wAf u)) mc ms)
    (MR : sw_M l G yX10_hour wsX10_hour rm2 [.ref m, .int a1, .int a2] (lw_rm G m b0 b1 np th hh S P) (sw_QL G pr (fun u => lw_rm G m b0 b1 (npf u) (thf u) (hhf u) (Sf u) (Pf u))) 0 0) (hr2 : rm2.cells = 0 ∧ rm2.slots = 0 ∧ rm2.frames ≤ 11 ∧ rm2.locals ≤ 340)
    (hk : k + mc ≤ room_1.cells) (hn : n + ms ≤ room_1.slots) (hA : ∀ r u r' u', po r u → pr r' u' → thf u' = r ∧ (r = 0 → ovf u 0 = r'))
    (kk : ∀ r u r' u', po r u → pr r' u' → SW G C (k + mc) (n + ms) (lw_rm G m b0 b1 (npf u') (thf u') (hhf u') (Sf u') (Pf u') ++ ((lw_out G o (ovf u) :: wAf u) ++ wR)) [(4, .int i), (3, .ref o), (2, .ref m), (1, .ref h), (0, .ref b)] 1582 []) : SW G C k n (lw_rm G m b0 b1 np th hh S P ++ ((lw_out G o ov :: wA) ++ wR)) [(4, .int i), (3, .ref o), (2, .ref m), (1, .ref h), (0, .ref b)] 1297 [] := by
  refine sw_aload_n (pc := 1297) F dL_law_1297 rfl 3 rfl ?_
  refine sw_aload_n (pc := 1298) F dL_law_1298 rfl 4 rfl ?_
  refine sw_iload (pc := 1299) F dL_law_1299 0 rfl ?_
  refine sw_iconst (pc := 1301) (v := 1) F dL_law_1301 rfl ?_
  refine sw_iadd (pc := 1302) F dL_law_1302 ?_
  refine ly_sld (pc := 1303) F hF.2.2.2.2.1 hF.2.2.2.2.2.1 hF.2.2.2.2.2.2 hi1 dL_law_1303 ?_
  refine sw_eqt (v := .int a1) (by rw [e1]) ?_
  refine sw_aload_n (pc := 1304) F dL_law_1304 rfl 4 rfl ?_
  refine sw_iload (pc := 1305) F dL_law_1305 0 rfl ?_
  refine sw_iconst (pc := 1307) (v := 2) F dL_law_1307 rfl ?_
  refine sw_iadd (pc := 1308) F dL_law_1308 ?_
  refine ly_sld (pc := 1309) F hF.2.2.2.2.1 hF.2.2.2.2.2.1 hF.2.2.2.2.2.2 hi2 dL_law_1309 ?_
  refine sw_eqt (v := .int a2) (by rw [e2]) ?_
  refine sw_aload_n (pc := 1310) F dL_law_1310 rfl 1 rfl ?_
  refine ly_calliX (pc := 1311) (k' := k + mc) (n' := n + ms) (P := lw_rm G m b0 b1 np th hh S P) (Q := lw_out G o ov :: wA) (R := wR) F (ly_runS (Ro := room_1) (na := 4) F hF.2.2.2.1 hF.2.1 hF.2.2.1 ML (List.range' (lw_rm G m b0 b1 np th hh S P).length (lw_out G o ov :: wA).length) (ly_map (lw_rm G m b0 b1 np th hh S P) (lw_out G o ov :: wA) wR) (ly_nd _ _) gL_law_L_hour rfl rfl rfl (by decide +kernel) ⟨Nat.le_of_ble_eq_true rfl, Nat.le_of_ble_eq_true rfl⟩ rfl rfl (Nat.le_of_ble_eq_true rfl) dL_law_1311 hk hn) rfl rfl (fun r u hp => ?_)
  refine sw_istore (pc := 1314) (lv' := [(5, .int r), (4, .int i), (3, .ref o), (2, .ref m), (1, .ref h), (0, .ref b)]) F hF.1 dL_law_1314 (by decide) rfl ?_
  refine sw_aload_n (pc := 1316) F dL_law_1316 rfl 3 rfl ?_
  refine sw_aload_n (pc := 1317) F dL_law_1317 rfl 5 rfl ?_
  refine sw_iload (pc := 1318) F dL_law_1318 1 rfl ?_
  refine sw_iconst (pc := 1320) (v := 1) F dL_law_1320 rfl ?_
  refine sw_iadd (pc := 1321) F dL_law_1321 ?_
  refine ly_sld (pc := 1322) F hF.2.2.2.2.1 hF.2.2.2.2.2.1 hF.2.2.2.2.2.2 hi1 dL_law_1322 ?_
  refine sw_eqt (v := .int a1) (by rw [e1]) ?_
  refine sw_aload_n (pc := 1323) F dL_law_1323 rfl 5 rfl ?_
  refine sw_iload (pc := 1324) F dL_law_1324 1 rfl ?_
  refine sw_iconst (pc := 1326) (v := 2) F dL_law_1326 rfl ?_
  refine sw_iadd (pc := 1327) F dL_law_1327 ?_
  refine ly_sld (pc := 1328) F hF.2.2.2.2.1 hF.2.2.2.2.2.1 hF.2.2.2.2.2.2 hi2 dL_law_1328 ?_
  refine sw_eqt (v := .int a2) (by rw [e2]) ?_
  refine ly_calll (pc := 1329) (k' := k + mc) (n' := n + ms) (P := []) (Q := lw_rm G m b0 b1 np th hh S P) (R := (lw_out G o (ovf u) :: wAf u) ++ wR) F (sw_runV (R := room_1) (q0 := 0) (na := 2) (ci := 10) F hF.2.1 hF.2.2.1 MR (List.range' 0 3) (ly_map [] (lw_rm G m b0 b1 np th hh S P) ((lw_out G o (ovf u) :: wAf u) ++ wR)) (ly_nd _ _) gL_law_X10_hour rfl hr2.1 hr2.2.1 (by decide +kernel) ⟨Nat.succ_le_succ hr2.2.2.1, lw_room hr2.2.2.2 (Nat.le_of_ble_eq_true rfl)⟩ rfl rfl rfl rfl rfl (Nat.le_of_ble_eq_true rfl) dL_law_1329 hk hn) rfl rfl (fun r' u' hp' => ?_)
  refine sw_lstore (pc := 1332) (lv' := [(6, .long r'), (5, .int r), (4, .int i), (3, .ref o), (2, .ref m), (1, .ref h), (0, .ref b)]) F hF.1 dL_law_1332 (by decide) rfl ?_
  refine sw_aload_n (pc := 1334) F dL_law_1334 rfl 4 rfl ?_
  refine ly_calli (pc := 1335) (k' := k + mc) (n' := n + ms) (P := []) (Q := lw_rm G m b0 b1 (npf u') (thf u') (hhf u') (Sf u') (Pf u')) (R := (lw_out G o (ovf u) :: wAf u) ++ wR) F (sw_runV (R := room_1) (q0 := 0) (na := 0) (ci := 10) F hF.2.1 hF.2.2.1 (k_X10_thrown l G m b0 b1 (npf u') (thf u') (hhf u') (Sf u') (Pf u')) (List.range' 0 3) (ly_map [] (lw_rm G m b0 b1 (npf u') (thf u') (hhf u') (Sf u') (Pf u')) ((lw_out G o (ovf u) :: wAf u) ++ wR)) (ly_nd _ _) gL_law_X10_thrown rfl rfl rfl (by decide +kernel) ⟨Nat.le_of_ble_eq_true rfl, Nat.le_of_ble_eq_true rfl⟩ rfl rfl rfl rfl rfl (Nat.le_of_ble_eq_true rfl) dL_law_1335 hk hn) rfl rfl (fun t u9 ht => ?_)
  have ht' : t = thf u' := ht
  obtain ⟨hA1, hA2⟩ := hA r u r' u' hp hp'
  rw [hA1] at ht'
  subst ht'
  refine sw_iload (pc := 1338) F dL_law_1338 1 rfl ?_
  refine sw_icmp_eq (pc := 1340) (tgt := 1345) F dL_law_1340 (by decide) (fun _ => ?_) (fun z => absurd rfl z)
  refine sw_iload (pc := 1345) F dL_law_1345 1 rfl ?_
  refine sw_if_ne (pc := 1347) (tgt := 1361) F dL_law_1347 (by decide) (fun _ => ?_) (fun z => ?_)
  · skip
    refine sw_lvs (is := [2, 3, 4, 5, 6]) (lv' := [(4, .int i), (3, .ref o), (2, .ref m), (1, .ref h), (0, .ref b)]) rfl ?_
    refine sw_goto (pc := 1361) (tgt := 1582) F dL_law_1361 (by decide) ?_
    exact kk t u r' u' hp hp'
  · skip
    refine sw_aload_n (pc := 1350) F dL_law_1350 rfl 3 rfl ?_
    refine sw_iconst (pc := 1351) (v := 0) F dL_law_1351 rfl ?_
    refine sw_lald (pc := 1352) F 3 rfl (sw_in rfl) dL_law_1352 ?_
    refine sw_lload (pc := 1353) F dL_law_1353 0 rfl ?_
    refine sw_lcmp_eq (pc := 1355) (tgt := 1361) F dL_law_1355 dL_law_1356 (by decide) (fun _ => ?_) (fun y => absurd (hA2 z) y)
    refine sw_lvs (is := [2, 3, 4, 5, 6]) (lv' := [(4, .int i), (3, .ref o), (2, .ref m), (1, .ref h), (0, .ref b)]) rfl ?_
    refine sw_goto (pc := 1361) (tgt := 1582) F dL_law_1361 (by decide) ?_
    exact kk t u r' u' hp hp'
set_option maxHeartbeats 4000000 in
set_option maxRecDepth 100000 in
theorem law_c24 {G : sw_E} {C : sw_C} {k n : Nat} {l : Launch} {b L : Nat} {xs : Nat → Int32} (F : sw_H G C cL_law RL wsL_law) (hF : LF G C l b L xs) {h m o : Nat} {i : Int32} {b0 b1 : Nat} {np th : Int32} {hh : Int64} {S P : Nat → Int64} {ov : Nat → Int64} {fs : List Value} {wX wY : va_W} {S1 S2 : Type} {po : Int32 → S1 → Prop} {pr : Int32 → S2 → Prop} {npf thf : S2 → Int32} {hhf : S2 → Int64} {Sf Pf : S2 → Nat → Int64} {rm1 rm2 : Room}
    (ML : sw_M l G yX9_days wsX9_days rm1 [.ref h] ((h, .inr (9, fs)) :: wX) (sw_QI G po (fun _ => (h, .inr (9, fs)) :: wX)) 0 0) (hr1 : rm1.cells = 0 ∧ rm1.slots = 0 ∧ rm1.frames ≤ 11 ∧ rm1.locals ≤ 340)
    (MR : sw_M l G yX10_days wsX10_days rm2 [.ref m] (lw_rm G m b0 b1 np th hh S P) (sw_QI G pr (fun u => lw_rm G m b0 b1 (npf u) (thf u) (hhf u) (Sf u) (Pf u))) 0 0) (hr2 : rm2.cells = 0 ∧ rm2.slots = 0 ∧ rm2.frames ≤ 11 ∧ rm2.locals ≤ 340)
    (hk : k ≤ room_1.cells) (hn : n ≤ room_1.slots) (hA : ∀ r u r' u', po r u → pr r' u' → r = r')
    (kk : ∀ r u r' u', po r u → pr r' u' → SW G C k n (lw_rm G m b0 b1 (npf u') (thf u') (hhf u') (Sf u') (Pf u') ++ (lw_out G o ov :: ((((h, .inr (9, fs)) :: wX)) ++ wY))) [(4, .int i), (3, .ref o), (2, .ref m), (1, .ref h), (0, .ref b)] 1582 []) : SW G C k n (lw_rm G m b0 b1 np th hh S P ++ (lw_out G o ov :: ((((h, .inr (9, fs)) :: wX)) ++ wY))) [(4, .int i), (3, .ref o), (2, .ref m), (1, .ref h), (0, .ref b)] 1364 [] := by
  refine sw_aload_n (pc := 1364) F dL_law_1364 rfl 3 rfl ?_
  refine ly_calli (pc := 1365) (k' := k) (n' := n) (P := lw_rm G m b0 b1 np th hh S P ++ [lw_out G o ov]) (Q := (h, .inr (9, fs)) :: wX) (R := wY) F (sw_runV (R := room_1) (q0 := 0) (na := 0) (ci := 9) F hF.2.1 hF.2.2.1 ML (List.range' (lw_rm G m b0 b1 np th hh S P ++ [lw_out G o ov]).length (((h, .inr (9, fs)) :: wX) : va_W).length) (ly_map (lw_rm G m b0 b1 np th hh S P ++ [lw_out G o ov]) ((h, .inr (9, fs)) :: wX) wY) (ly_nd _ _) gL_law_X9_days rfl hr1.1 hr1.2.1 (by decide +kernel) ⟨Nat.succ_le_succ hr1.2.2.1, lw_room hr1.2.2.2 (Nat.le_of_ble_eq_true rfl)⟩ rfl rfl rfl rfl rfl (Nat.le_of_ble_eq_true rfl) dL_law_1365 hk hn) rfl rfl (fun r u hp => ?_)
  refine sw_aload_n (pc := 1368) F dL_law_1368 rfl 2 rfl ?_
  refine ly_calli (pc := 1369) (k' := k) (n' := n) (P := []) (Q := lw_rm G m b0 b1 np th hh S P) (R := lw_out G o ov :: (((h, .inr (9, fs)) :: wX) ++ wY)) F (sw_runV (R := room_1) (q0 := 0) (na := 0) (ci := 10) F hF.2.1 hF.2.2.1 MR (List.range' 0 3) (ly_map [] (lw_rm G m b0 b1 np th hh S P) (lw_out G o ov :: (((h, .inr (9, fs)) :: wX) ++ wY))) (ly_nd _ _) gL_law_X10_days rfl hr2.1 hr2.2.1 (by decide +kernel) ⟨Nat.succ_le_succ hr2.2.2.1, lw_room hr2.2.2.2 (Nat.le_of_ble_eq_true rfl)⟩ rfl rfl rfl rfl rfl (Nat.le_of_ble_eq_true rfl) dL_law_1369 hk hn) rfl rfl (fun r' u' hp' => ?_)
  have hA1 := hA r u r' u' hp hp'
  refine sw_icmp_eq (pc := 1372) (tgt := 1582) F dL_law_1372 (by decide) (fun _ => ?_) (fun y => absurd hA1 y)
  exact kk r u r' u' hp hp'
set_option maxHeartbeats 4000000 in
set_option maxRecDepth 100000 in
theorem law_c25 {G : sw_E} {C : sw_C} {k n : Nat} {l : Launch} {b L : Nat} {xs : Nat → Int32} (F : sw_H G C cL_law RL wsL_law) (hF : LF G C l b L xs) {h m o : Nat} {i : Int32} {a1 a2 : Int32} (hi1 : vp_in (i + 1) L) (e1 : xs (i + 1).toNatClampNeg = a1) (hi2 : vp_in (i + 2) L) (e2 : xs (i + 2).toNatClampNeg = a2) {b0 b1 : Nat} {np th : Int32} {hh : Int64} {S P : Nat → Int64} {ov : Nat → Int64} {wA wR : va_W} {mc ms : Nat} {S1 S2 : Type} {po : Int32 → S1 → Prop} {ovf : S1 → Nat → Int64} {wAf : S1 → va_W} {pr : Int64 → S2 → Prop} {npf thf : S2 → Int32} {hhf : S2 → Int64} {Sf Pf : S2 → Nat → Int64} {rm2 : Room}
    (ML : sy_M l G yL_day wsL_day ({ frames := 10, cells := mc, slots := ms, locals := 340 } : Room) [.ref h, .int a1, .int a2, .ref o] (lw_out G o ov :: wA) (sw_QI G po (fun u => lw_out G o (ovf u) :: wAf u)) mc ms)
    (MR : sw_M l G yX10_day wsX10_day rm2 [.ref m, .int a1, .int a2] (lw_rm G m b0 b1 np th hh S P) (sw_QL G pr (fun u => lw_rm G m b0 b1 (npf u) (thf u) (hhf u) (Sf u) (Pf u))) 0 0) (hr2 : rm2.cells = 0 ∧ rm2.slots = 0 ∧ rm2.frames ≤ 11 ∧ rm2.locals ≤ 340)
    (hk : k + mc ≤ room_1.cells) (hn : n + ms ≤ room_1.slots) (hA : ∀ r u r' u', po r u → pr r' u' → thf u' = r ∧ (r = 0 → ovf u 0 = r'))
    (kk : ∀ r u r' u', po r u → pr r' u' → SW G C (k + mc) (n + ms) (lw_rm G m b0 b1 (npf u') (thf u') (hhf u') (Sf u') (Pf u') ++ ((lw_out G o (ovf u) :: wAf u) ++ wR)) [(4, .int i), (3, .ref o), (2, .ref m), (1, .ref h), (0, .ref b)] 1582 []) : SW G C k n (lw_rm G m b0 b1 np th hh S P ++ ((lw_out G o ov :: wA) ++ wR)) [(4, .int i), (3, .ref o), (2, .ref m), (1, .ref h), (0, .ref b)] 1377 [] := by
  refine sw_aload_n (pc := 1377) F dL_law_1377 rfl 3 rfl ?_
  refine sw_aload_n (pc := 1378) F dL_law_1378 rfl 4 rfl ?_
  refine sw_iload (pc := 1379) F dL_law_1379 0 rfl ?_
  refine sw_iconst (pc := 1381) (v := 1) F dL_law_1381 rfl ?_
  refine sw_iadd (pc := 1382) F dL_law_1382 ?_
  refine ly_sld (pc := 1383) F hF.2.2.2.2.1 hF.2.2.2.2.2.1 hF.2.2.2.2.2.2 hi1 dL_law_1383 ?_
  refine sw_eqt (v := .int a1) (by rw [e1]) ?_
  refine sw_aload_n (pc := 1384) F dL_law_1384 rfl 4 rfl ?_
  refine sw_iload (pc := 1385) F dL_law_1385 0 rfl ?_
  refine sw_iconst (pc := 1387) (v := 2) F dL_law_1387 rfl ?_
  refine sw_iadd (pc := 1388) F dL_law_1388 ?_
  refine ly_sld (pc := 1389) F hF.2.2.2.2.1 hF.2.2.2.2.2.1 hF.2.2.2.2.2.2 hi2 dL_law_1389 ?_
  refine sw_eqt (v := .int a2) (by rw [e2]) ?_
  refine sw_aload_n (pc := 1390) F dL_law_1390 rfl 1 rfl ?_
  refine ly_calliX (pc := 1391) (k' := k + mc) (n' := n + ms) (P := lw_rm G m b0 b1 np th hh S P) (Q := lw_out G o ov :: wA) (R := wR) F (ly_runS (Ro := room_1) (na := 4) F hF.2.2.2.1 hF.2.1 hF.2.2.1 ML (List.range' (lw_rm G m b0 b1 np th hh S P).length (lw_out G o ov :: wA).length) (ly_map (lw_rm G m b0 b1 np th hh S P) (lw_out G o ov :: wA) wR) (ly_nd _ _) gL_law_L_day rfl rfl rfl (by decide +kernel) ⟨Nat.le_of_ble_eq_true rfl, Nat.le_of_ble_eq_true rfl⟩ rfl rfl (Nat.le_of_ble_eq_true rfl) dL_law_1391 hk hn) rfl rfl (fun r u hp => ?_)
  refine sw_istore (pc := 1394) (lv' := [(5, .int r), (4, .int i), (3, .ref o), (2, .ref m), (1, .ref h), (0, .ref b)]) F hF.1 dL_law_1394 (by decide) rfl ?_
  refine sw_aload_n (pc := 1396) F dL_law_1396 rfl 3 rfl ?_
  refine sw_aload_n (pc := 1397) F dL_law_1397 rfl 5 rfl ?_
  refine sw_iload (pc := 1398) F dL_law_1398 1 rfl ?_
  refine sw_iconst (pc := 1400) (v := 1) F dL_law_1400 rfl ?_
  refine sw_iadd (pc := 1401) F dL_law_1401 ?_
  refine ly_sld (pc := 1402) F hF.2.2.2.2.1 hF.2.2.2.2.2.1 hF.2.2.2.2.2.2 hi1 dL_law_1402 ?_
  refine sw_eqt (v := .int a1) (by rw [e1]) ?_
  refine sw_aload_n (pc := 1403) F dL_law_1403 rfl 5 rfl ?_
  refine sw_iload (pc := 1404) F dL_law_1404 1 rfl ?_
  refine sw_iconst (pc := 1406) (v := 2) F dL_law_1406 rfl ?_
  refine sw_iadd (pc := 1407) F dL_law_1407 ?_
  refine ly_sld (pc := 1408) F hF.2.2.2.2.1 hF.2.2.2.2.2.1 hF.2.2.2.2.2.2 hi2 dL_law_1408 ?_
  refine sw_eqt (v := .int a2) (by rw [e2]) ?_
  refine ly_calll (pc := 1409) (k' := k + mc) (n' := n + ms) (P := []) (Q := lw_rm G m b0 b1 np th hh S P) (R := (lw_out G o (ovf u) :: wAf u) ++ wR) F (sw_runV (R := room_1) (q0 := 0) (na := 2) (ci := 10) F hF.2.1 hF.2.2.1 MR (List.range' 0 3) (ly_map [] (lw_rm G m b0 b1 np th hh S P) ((lw_out G o (ovf u) :: wAf u) ++ wR)) (ly_nd _ _) gL_law_X10_day rfl hr2.1 hr2.2.1 (by decide +kernel) ⟨Nat.succ_le_succ hr2.2.2.1, lw_room hr2.2.2.2 (Nat.le_of_ble_eq_true rfl)⟩ rfl rfl rfl rfl rfl (Nat.le_of_ble_eq_true rfl) dL_law_1409 hk hn) rfl rfl (fun r' u' hp' => ?_)
  refine sw_lstore (pc := 1412) (lv' := [(6, .long r'), (5, .int r), (4, .int i), (3, .ref o), (2, .ref m), (1, .ref h), (0, .ref b)]) F hF.1 dL_law_1412 (by decide) rfl ?_
  refine sw_aload_n (pc := 1414) F dL_law_1414 rfl 4 rfl ?_
  refine ly_calli (pc := 1415) (k' := k + mc) (n' := n + ms) (P := []) (Q := lw_rm G m b0 b1 (npf u') (thf u') (hhf u') (Sf u') (Pf u')) (R := (lw_out G o (ovf u) :: wAf u) ++ wR) F (sw_runV (R := room_1) (q0 := 0) (na := 0) (ci := 10) F hF.2.1 hF.2.2.1 (k_X10_thrown l G m b0 b1 (npf u') (thf u') (hhf u') (Sf u') (Pf u')) (List.range' 0 3) (ly_map [] (lw_rm G m b0 b1 (npf u') (thf u') (hhf u') (Sf u') (Pf u')) ((lw_out G o (ovf u) :: wAf u) ++ wR)) (ly_nd _ _) gL_law_X10_thrown rfl rfl rfl (by decide +kernel) ⟨Nat.le_of_ble_eq_true rfl, Nat.le_of_ble_eq_true rfl⟩ rfl rfl rfl rfl rfl (Nat.le_of_ble_eq_true rfl) dL_law_1415 hk hn) rfl rfl (fun t u9 ht => ?_)
  have ht' : t = thf u' := ht
  obtain ⟨hA1, hA2⟩ := hA r u r' u' hp hp'
  rw [hA1] at ht'
  subst ht'
  refine sw_iload (pc := 1418) F dL_law_1418 1 rfl ?_
  refine sw_icmp_eq (pc := 1420) (tgt := 1425) F dL_law_1420 (by decide) (fun _ => ?_) (fun z => absurd rfl z)
  refine sw_iload (pc := 1425) F dL_law_1425 1 rfl ?_
  refine sw_if_ne (pc := 1427) (tgt := 1441) F dL_law_1427 (by decide) (fun _ => ?_) (fun z => ?_)
  · skip
    refine sw_lvs (is := [2, 3, 4, 5, 6]) (lv' := [(4, .int i), (3, .ref o), (2, .ref m), (1, .ref h), (0, .ref b)]) rfl ?_
    refine sw_goto (pc := 1441) (tgt := 1582) F dL_law_1441 (by decide) ?_
    exact kk t u r' u' hp hp'
  · skip
    refine sw_aload_n (pc := 1430) F dL_law_1430 rfl 3 rfl ?_
    refine sw_iconst (pc := 1431) (v := 0) F dL_law_1431 rfl ?_
    refine sw_lald (pc := 1432) F 3 rfl (sw_in rfl) dL_law_1432 ?_
    refine sw_lload (pc := 1433) F dL_law_1433 0 rfl ?_
    refine sw_lcmp_eq (pc := 1435) (tgt := 1441) F dL_law_1435 dL_law_1436 (by decide) (fun _ => ?_) (fun y => absurd (hA2 z) y)
    refine sw_lvs (is := [2, 3, 4, 5, 6]) (lv' := [(4, .int i), (3, .ref o), (2, .ref m), (1, .ref h), (0, .ref b)]) rfl ?_
    refine sw_goto (pc := 1441) (tgt := 1582) F dL_law_1441 (by decide) ?_
    exact kk t u r' u' hp hp'
set_option maxHeartbeats 4000000 in
set_option maxRecDepth 100000 in
theorem law_c26 {G : sw_E} {C : sw_C} {k n : Nat} {l : Launch} {b L : Nat} {xs : Nat → Int32} (F : sw_H G C cL_law RL wsL_law) (hF : LF G C l b L xs) {h m o : Nat} {i : Int32} {b0 b1 : Nat} {np th : Int32} {hh : Int64} {S P : Nat → Int64} {ov : Nat → Int64} {fs : List Value} {wX wY : va_W} {S1 S2 : Type} {po : Int32 → S1 → Prop} {pr : Int32 → S2 → Prop} {npf thf : S2 → Int32} {hhf : S2 → Int64} {Sf Pf : S2 → Nat → Int64} {rm1 rm2 : Room}
    (ML : sw_M l G yX9_events wsX9_events rm1 [.ref h] ((h, .inr (9, fs)) :: wX) (sw_QI G po (fun _ => (h, .inr (9, fs)) :: wX)) 0 0) (hr1 : rm1.cells = 0 ∧ rm1.slots = 0 ∧ rm1.frames ≤ 11 ∧ rm1.locals ≤ 340)
    (MR : sw_M l G yX10_events wsX10_events rm2 [.ref m] (lw_rm G m b0 b1 np th hh S P) (sw_QI G pr (fun u => lw_rm G m b0 b1 (npf u) (thf u) (hhf u) (Sf u) (Pf u))) 0 0) (hr2 : rm2.cells = 0 ∧ rm2.slots = 0 ∧ rm2.frames ≤ 11 ∧ rm2.locals ≤ 340)
    (hk : k ≤ room_1.cells) (hn : n ≤ room_1.slots) (hA : ∀ r u r' u', po r u → pr r' u' → r = r')
    (kk : ∀ r u r' u', po r u → pr r' u' → SW G C k n (lw_rm G m b0 b1 (npf u') (thf u') (hhf u') (Sf u') (Pf u') ++ (lw_out G o ov :: ((((h, .inr (9, fs)) :: wX)) ++ wY))) [(4, .int i), (3, .ref o), (2, .ref m), (1, .ref h), (0, .ref b)] 1582 []) : SW G C k n (lw_rm G m b0 b1 np th hh S P ++ (lw_out G o ov :: ((((h, .inr (9, fs)) :: wX)) ++ wY))) [(4, .int i), (3, .ref o), (2, .ref m), (1, .ref h), (0, .ref b)] 1444 [] := by
  refine sw_aload_n (pc := 1444) F dL_law_1444 rfl 3 rfl ?_
  refine ly_calli (pc := 1445) (k' := k) (n' := n) (P := lw_rm G m b0 b1 np th hh S P ++ [lw_out G o ov]) (Q := (h, .inr (9, fs)) :: wX) (R := wY) F (sw_runV (R := room_1) (q0 := 0) (na := 0) (ci := 9) F hF.2.1 hF.2.2.1 ML (List.range' (lw_rm G m b0 b1 np th hh S P ++ [lw_out G o ov]).length (((h, .inr (9, fs)) :: wX) : va_W).length) (ly_map (lw_rm G m b0 b1 np th hh S P ++ [lw_out G o ov]) ((h, .inr (9, fs)) :: wX) wY) (ly_nd _ _) gL_law_X9_events rfl hr1.1 hr1.2.1 (by decide +kernel) ⟨Nat.succ_le_succ hr1.2.2.1, lw_room hr1.2.2.2 (Nat.le_of_ble_eq_true rfl)⟩ rfl rfl rfl rfl rfl (Nat.le_of_ble_eq_true rfl) dL_law_1445 hk hn) rfl rfl (fun r u hp => ?_)
  refine sw_aload_n (pc := 1448) F dL_law_1448 rfl 2 rfl ?_
  refine ly_calli (pc := 1449) (k' := k) (n' := n) (P := []) (Q := lw_rm G m b0 b1 np th hh S P) (R := lw_out G o ov :: (((h, .inr (9, fs)) :: wX) ++ wY)) F (sw_runV (R := room_1) (q0 := 0) (na := 0) (ci := 10) F hF.2.1 hF.2.2.1 MR (List.range' 0 3) (ly_map [] (lw_rm G m b0 b1 np th hh S P) (lw_out G o ov :: (((h, .inr (9, fs)) :: wX) ++ wY))) (ly_nd _ _) gL_law_X10_events rfl hr2.1 hr2.2.1 (by decide +kernel) ⟨Nat.succ_le_succ hr2.2.2.1, lw_room hr2.2.2.2 (Nat.le_of_ble_eq_true rfl)⟩ rfl rfl rfl rfl rfl (Nat.le_of_ble_eq_true rfl) dL_law_1449 hk hn) rfl rfl (fun r' u' hp' => ?_)
  have hA1 := hA r u r' u' hp hp'
  refine sw_icmp_eq (pc := 1452) (tgt := 1582) F dL_law_1452 (by decide) (fun _ => ?_) (fun y => absurd hA1 y)
  exact kk r u r' u' hp hp'
set_option maxHeartbeats 4000000 in
set_option maxRecDepth 100000 in
theorem law_c27 {G : sw_E} {C : sw_C} {k n : Nat} {l : Launch} {b L : Nat} {xs : Nat → Int32} (F : sw_H G C cL_law RL wsL_law) (hF : LF G C l b L xs) {h m o : Nat} {i : Int32} {a1 a2 : Int32} (hi1 : vp_in (i + 1) L) (e1 : xs (i + 1).toNatClampNeg = a1) (hi2 : vp_in (i + 2) L) (e2 : xs (i + 2).toNatClampNeg = a2) {b0 b1 : Nat} {np th : Int32} {hh : Int64} {S P : Nat → Int64} {ov : Nat → Int64} {wA wR : va_W} {mc ms : Nat} {S1 S2 : Type} {po : Int32 → S1 → Prop} {ovf : S1 → Nat → Int64} {wAf : S1 → va_W} {pr : Int64 → S2 → Prop} {npf thf : S2 → Int32} {hhf : S2 → Int64} {Sf Pf : S2 → Nat → Int64} {rm2 : Room}
    (ML : sy_M l G yL_event wsL_event ({ frames := 10, cells := mc, slots := ms, locals := 340 } : Room) [.ref h, .int a1, .int a2, .ref o] (lw_out G o ov :: wA) (sw_QI G po (fun u => lw_out G o (ovf u) :: wAf u)) mc ms)
    (MR : sw_M l G yX10_event wsX10_event rm2 [.ref m, .int a1, .int a2] (lw_rm G m b0 b1 np th hh S P) (sw_QL G pr (fun u => lw_rm G m b0 b1 (npf u) (thf u) (hhf u) (Sf u) (Pf u))) 0 0) (hr2 : rm2.cells = 0 ∧ rm2.slots = 0 ∧ rm2.frames ≤ 11 ∧ rm2.locals ≤ 340)
    (hk : k + mc ≤ room_1.cells) (hn : n + ms ≤ room_1.slots) (hA : ∀ r u r' u', po r u → pr r' u' → thf u' = r ∧ (r = 0 → ovf u 0 = r'))
    (kk : ∀ r u r' u', po r u → pr r' u' → SW G C (k + mc) (n + ms) (lw_rm G m b0 b1 (npf u') (thf u') (hhf u') (Sf u') (Pf u') ++ ((lw_out G o (ovf u) :: wAf u) ++ wR)) [(4, .int i), (3, .ref o), (2, .ref m), (1, .ref h), (0, .ref b)] 1582 []) : SW G C k n (lw_rm G m b0 b1 np th hh S P ++ ((lw_out G o ov :: wA) ++ wR)) [(4, .int i), (3, .ref o), (2, .ref m), (1, .ref h), (0, .ref b)] 1457 [] := by
  refine sw_aload_n (pc := 1457) F dL_law_1457 rfl 3 rfl ?_
  refine sw_aload_n (pc := 1458) F dL_law_1458 rfl 4 rfl ?_
  refine sw_iload (pc := 1459) F dL_law_1459 0 rfl ?_
  refine sw_iconst (pc := 1461) (v := 1) F dL_law_1461 rfl ?_
  refine sw_iadd (pc := 1462) F dL_law_1462 ?_
  refine ly_sld (pc := 1463) F hF.2.2.2.2.1 hF.2.2.2.2.2.1 hF.2.2.2.2.2.2 hi1 dL_law_1463 ?_
  refine sw_eqt (v := .int a1) (by rw [e1]) ?_
  refine sw_aload_n (pc := 1464) F dL_law_1464 rfl 4 rfl ?_
  refine sw_iload (pc := 1465) F dL_law_1465 0 rfl ?_
  refine sw_iconst (pc := 1467) (v := 2) F dL_law_1467 rfl ?_
  refine sw_iadd (pc := 1468) F dL_law_1468 ?_
  refine ly_sld (pc := 1469) F hF.2.2.2.2.1 hF.2.2.2.2.2.1 hF.2.2.2.2.2.2 hi2 dL_law_1469 ?_
  refine sw_eqt (v := .int a2) (by rw [e2]) ?_
  refine sw_aload_n (pc := 1470) F dL_law_1470 rfl 1 rfl ?_
  refine ly_calliX (pc := 1471) (k' := k + mc) (n' := n + ms) (P := lw_rm G m b0 b1 np th hh S P) (Q := lw_out G o ov :: wA) (R := wR) F (ly_runS (Ro := room_1) (na := 4) F hF.2.2.2.1 hF.2.1 hF.2.2.1 ML (List.range' (lw_rm G m b0 b1 np th hh S P).length (lw_out G o ov :: wA).length) (ly_map (lw_rm G m b0 b1 np th hh S P) (lw_out G o ov :: wA) wR) (ly_nd _ _) gL_law_L_event rfl rfl rfl (by decide +kernel) ⟨Nat.le_of_ble_eq_true rfl, Nat.le_of_ble_eq_true rfl⟩ rfl rfl (Nat.le_of_ble_eq_true rfl) dL_law_1471 hk hn) rfl rfl (fun r u hp => ?_)
  refine sw_istore (pc := 1474) (lv' := [(5, .int r), (4, .int i), (3, .ref o), (2, .ref m), (1, .ref h), (0, .ref b)]) F hF.1 dL_law_1474 (by decide) rfl ?_
  refine sw_aload_n (pc := 1476) F dL_law_1476 rfl 3 rfl ?_
  refine sw_aload_n (pc := 1477) F dL_law_1477 rfl 5 rfl ?_
  refine sw_iload (pc := 1478) F dL_law_1478 1 rfl ?_
  refine sw_iconst (pc := 1480) (v := 1) F dL_law_1480 rfl ?_
  refine sw_iadd (pc := 1481) F dL_law_1481 ?_
  refine ly_sld (pc := 1482) F hF.2.2.2.2.1 hF.2.2.2.2.2.1 hF.2.2.2.2.2.2 hi1 dL_law_1482 ?_
  refine sw_eqt (v := .int a1) (by rw [e1]) ?_
  refine sw_aload_n (pc := 1483) F dL_law_1483 rfl 5 rfl ?_
  refine sw_iload (pc := 1484) F dL_law_1484 1 rfl ?_
  refine sw_iconst (pc := 1486) (v := 2) F dL_law_1486 rfl ?_
  refine sw_iadd (pc := 1487) F dL_law_1487 ?_
  refine ly_sld (pc := 1488) F hF.2.2.2.2.1 hF.2.2.2.2.2.1 hF.2.2.2.2.2.2 hi2 dL_law_1488 ?_
  refine sw_eqt (v := .int a2) (by rw [e2]) ?_
  refine ly_calll (pc := 1489) (k' := k + mc) (n' := n + ms) (P := []) (Q := lw_rm G m b0 b1 np th hh S P) (R := (lw_out G o (ovf u) :: wAf u) ++ wR) F (sw_runV (R := room_1) (q0 := 0) (na := 2) (ci := 10) F hF.2.1 hF.2.2.1 MR (List.range' 0 3) (ly_map [] (lw_rm G m b0 b1 np th hh S P) ((lw_out G o (ovf u) :: wAf u) ++ wR)) (ly_nd _ _) gL_law_X10_event rfl hr2.1 hr2.2.1 (by decide +kernel) ⟨Nat.succ_le_succ hr2.2.2.1, lw_room hr2.2.2.2 (Nat.le_of_ble_eq_true rfl)⟩ rfl rfl rfl rfl rfl (Nat.le_of_ble_eq_true rfl) dL_law_1489 hk hn) rfl rfl (fun r' u' hp' => ?_)
  refine sw_lstore (pc := 1492) (lv' := [(6, .long r'), (5, .int r), (4, .int i), (3, .ref o), (2, .ref m), (1, .ref h), (0, .ref b)]) F hF.1 dL_law_1492 (by decide) rfl ?_
  refine sw_aload_n (pc := 1494) F dL_law_1494 rfl 4 rfl ?_
  refine ly_calli (pc := 1495) (k' := k + mc) (n' := n + ms) (P := []) (Q := lw_rm G m b0 b1 (npf u') (thf u') (hhf u') (Sf u') (Pf u')) (R := (lw_out G o (ovf u) :: wAf u) ++ wR) F (sw_runV (R := room_1) (q0 := 0) (na := 0) (ci := 10) F hF.2.1 hF.2.2.1 (k_X10_thrown l G m b0 b1 (npf u') (thf u') (hhf u') (Sf u') (Pf u')) (List.range' 0 3) (ly_map [] (lw_rm G m b0 b1 (npf u') (thf u') (hhf u') (Sf u') (Pf u')) ((lw_out G o (ovf u) :: wAf u) ++ wR)) (ly_nd _ _) gL_law_X10_thrown rfl rfl rfl (by decide +kernel) ⟨Nat.le_of_ble_eq_true rfl, Nat.le_of_ble_eq_true rfl⟩ rfl rfl rfl rfl rfl (Nat.le_of_ble_eq_true rfl) dL_law_1495 hk hn) rfl rfl (fun t u9 ht => ?_)
  have ht' : t = thf u' := ht
  obtain ⟨hA1, hA2⟩ := hA r u r' u' hp hp'
  rw [hA1] at ht'
  subst ht'
  refine sw_iload (pc := 1498) F dL_law_1498 1 rfl ?_
  refine sw_icmp_eq (pc := 1500) (tgt := 1505) F dL_law_1500 (by decide) (fun _ => ?_) (fun z => absurd rfl z)
  refine sw_iload (pc := 1505) F dL_law_1505 1 rfl ?_
  refine sw_if_ne (pc := 1507) (tgt := 1521) F dL_law_1507 (by decide) (fun _ => ?_) (fun z => ?_)
  · skip
    refine sw_lvs (is := [2, 3, 4, 5, 6]) (lv' := [(4, .int i), (3, .ref o), (2, .ref m), (1, .ref h), (0, .ref b)]) rfl ?_
    refine sw_goto (pc := 1521) (tgt := 1582) F dL_law_1521 (by decide) ?_
    exact kk t u r' u' hp hp'
  · skip
    refine sw_aload_n (pc := 1510) F dL_law_1510 rfl 3 rfl ?_
    refine sw_iconst (pc := 1511) (v := 0) F dL_law_1511 rfl ?_
    refine sw_lald (pc := 1512) F 3 rfl (sw_in rfl) dL_law_1512 ?_
    refine sw_lload (pc := 1513) F dL_law_1513 0 rfl ?_
    refine sw_lcmp_eq (pc := 1515) (tgt := 1521) F dL_law_1515 dL_law_1516 (by decide) (fun _ => ?_) (fun y => absurd (hA2 z) y)
    refine sw_lvs (is := [2, 3, 4, 5, 6]) (lv' := [(4, .int i), (3, .ref o), (2, .ref m), (1, .ref h), (0, .ref b)]) rfl ?_
    refine sw_goto (pc := 1521) (tgt := 1582) F dL_law_1521 (by decide) ?_
    exact kk t u r' u' hp hp'
set_option maxHeartbeats 4000000 in
set_option maxRecDepth 100000 in
theorem law_c28 {G : sw_E} {C : sw_C} {k n : Nat} {l : Launch} {b L : Nat} {xs : Nat → Int32} (F : sw_H G C cL_law RL wsL_law) (hF : LF G C l b L xs) {h m o : Nat} {i : Int32} {b0 b1 : Nat} {np th : Int32} {hh : Int64} {S P : Nat → Int64} {ov : Nat → Int64} {wA wR : va_W} {mc ms : Nat} {S1 S2 : Type} {po : Int32 → S1 → Prop} {ovf : S1 → Nat → Int64} {wAf : S1 → va_W} {pr : Int32 → S2 → Prop} {npf thf : S2 → Int32} {hhf : S2 → Int64} {Sf Pf : S2 → Nat → Int64} {rm2 : Room}
    (ML : sy_M l G yL_undo wsL_undo ({ frames := 10, cells := mc, slots := ms, locals := 340 } : Room) [.ref h, .ref o] (lw_out G o ov :: wA) (sw_QI G po (fun u => lw_out G o (ovf u) :: wAf u)) mc ms)
    (MR : sw_M l G yX10_undo wsX10_undo rm2 [.ref m] (lw_rm G m b0 b1 np th hh S P) (sw_QI G pr (fun u => lw_rm G m b0 b1 (npf u) (thf u) (hhf u) (Sf u) (Pf u))) 0 0) (hr2 : rm2.cells = 0 ∧ rm2.slots = 0 ∧ rm2.frames ≤ 11 ∧ rm2.locals ≤ 340)
    (hk : k + mc ≤ room_1.cells) (hn : n + ms ≤ room_1.slots) (hA : ∀ r u r' u', po r u → pr r' u' → thf u' = r ∧ (r = 0 → ovf u 0 = r'.toInt64))
    (kk : ∀ r u r' u', po r u → pr r' u' → SW G C (k + mc) (n + ms) (lw_rm G m b0 b1 (npf u') (thf u') (hhf u') (Sf u') (Pf u') ++ ((lw_out G o (ovf u) :: wAf u) ++ wR)) [(4, .int i), (3, .ref o), (2, .ref m), (1, .ref h), (0, .ref b)] 1582 []) : SW G C k n (lw_rm G m b0 b1 np th hh S P ++ ((lw_out G o ov :: wA) ++ wR)) [(4, .int i), (3, .ref o), (2, .ref m), (1, .ref h), (0, .ref b)] 1524 [] := by
  refine sw_aload_n (pc := 1524) F dL_law_1524 rfl 3 rfl ?_
  refine sw_aload_n (pc := 1525) F dL_law_1525 rfl 1 rfl ?_
  refine ly_calliX (pc := 1526) (k' := k + mc) (n' := n + ms) (P := lw_rm G m b0 b1 np th hh S P) (Q := lw_out G o ov :: wA) (R := wR) F (ly_runS (Ro := room_1) (na := 2) F hF.2.2.2.1 hF.2.1 hF.2.2.1 ML (List.range' (lw_rm G m b0 b1 np th hh S P).length (lw_out G o ov :: wA).length) (ly_map (lw_rm G m b0 b1 np th hh S P) (lw_out G o ov :: wA) wR) (ly_nd _ _) gL_law_L_undo rfl rfl rfl (by decide +kernel) ⟨Nat.le_of_ble_eq_true rfl, Nat.le_of_ble_eq_true rfl⟩ rfl rfl (Nat.le_of_ble_eq_true rfl) dL_law_1526 hk hn) rfl rfl (fun r u hp => ?_)
  refine sw_istore (pc := 1529) (lv' := [(5, .int r), (4, .int i), (3, .ref o), (2, .ref m), (1, .ref h), (0, .ref b)]) F hF.1 dL_law_1529 (by decide) rfl ?_
  refine sw_aload_n (pc := 1531) F dL_law_1531 rfl 3 rfl ?_
  refine ly_calli (pc := 1532) (k' := k + mc) (n' := n + ms) (P := []) (Q := lw_rm G m b0 b1 np th hh S P) (R := (lw_out G o (ovf u) :: wAf u) ++ wR) F (sw_runV (R := room_1) (q0 := 0) (na := 0) (ci := 10) F hF.2.1 hF.2.2.1 MR (List.range' 0 3) (ly_map [] (lw_rm G m b0 b1 np th hh S P) ((lw_out G o (ovf u) :: wAf u) ++ wR)) (ly_nd _ _) gL_law_X10_undo rfl hr2.1 hr2.2.1 (by decide +kernel) ⟨Nat.succ_le_succ hr2.2.2.1, lw_room hr2.2.2.2 (Nat.le_of_ble_eq_true rfl)⟩ rfl rfl rfl rfl rfl (Nat.le_of_ble_eq_true rfl) dL_law_1532 hk hn) rfl rfl (fun r' u' hp' => ?_)
  refine sw_istore (pc := 1535) (lv' := [(6, .int r'), (5, .int r), (4, .int i), (3, .ref o), (2, .ref m), (1, .ref h), (0, .ref b)]) F hF.1 dL_law_1535 (by decide) rfl ?_
  refine sw_aload_n (pc := 1537) F dL_law_1537 rfl 4 rfl ?_
  refine ly_calli (pc := 1538) (k' := k + mc) (n' := n + ms) (P := []) (Q := lw_rm G m b0 b1 (npf u') (thf u') (hhf u') (Sf u') (Pf u')) (R := (lw_out G o (ovf u) :: wAf u) ++ wR) F (sw_runV (R := room_1) (q0 := 0) (na := 0) (ci := 10) F hF.2.1 hF.2.2.1 (k_X10_thrown l G m b0 b1 (npf u') (thf u') (hhf u') (Sf u') (Pf u')) (List.range' 0 3) (ly_map [] (lw_rm G m b0 b1 (npf u') (thf u') (hhf u') (Sf u') (Pf u')) ((lw_out G o (ovf u) :: wAf u) ++ wR)) (ly_nd _ _) gL_law_X10_thrown rfl rfl rfl (by decide +kernel) ⟨Nat.le_of_ble_eq_true rfl, Nat.le_of_ble_eq_true rfl⟩ rfl rfl rfl rfl rfl (Nat.le_of_ble_eq_true rfl) dL_law_1538 hk hn) rfl rfl (fun t u9 ht => ?_)
  have ht' : t = thf u' := ht
  obtain ⟨hA1, hA2⟩ := hA r u r' u' hp hp'
  rw [hA1] at ht'
  subst ht'
  refine sw_iload (pc := 1541) F dL_law_1541 1 rfl ?_
  refine sw_icmp_eq (pc := 1543) (tgt := 1548) F dL_law_1543 (by decide) (fun _ => ?_) (fun z => absurd rfl z)
  refine sw_iload (pc := 1548) F dL_law_1548 1 rfl ?_
  refine sw_if_ne (pc := 1550) (tgt := 1565) F dL_law_1550 (by decide) (fun _ => ?_) (fun z => ?_)
  · skip
    refine sw_lvs (is := [2, 3, 4, 5, 6]) (lv' := [(4, .int i), (3, .ref o), (2, .ref m), (1, .ref h), (0, .ref b)]) rfl ?_
    refine sw_goto (pc := 1565) (tgt := 1582) F dL_law_1565 (by decide) ?_
    exact kk t u r' u' hp hp'
  · skip
    refine sw_aload_n (pc := 1553) F dL_law_1553 rfl 3 rfl ?_
    refine sw_iconst (pc := 1554) (v := 0) F dL_law_1554 rfl ?_
    refine sw_lald (pc := 1555) F 3 rfl (sw_in rfl) dL_law_1555 ?_
    refine sw_iload (pc := 1556) F dL_law_1556 0 rfl ?_
    refine sw_i2l (pc := 1558) F dL_law_1558 rfl ?_
    refine sw_lcmp_eq (pc := 1559) (tgt := 1565) F dL_law_1559 dL_law_1560 (by decide) (fun _ => ?_) (fun y => absurd (hA2 z) y)
    refine sw_lvs (is := [2, 3, 4, 5, 6]) (lv' := [(4, .int i), (3, .ref o), (2, .ref m), (1, .ref h), (0, .ref b)]) rfl ?_
    refine sw_goto (pc := 1565) (tgt := 1582) F dL_law_1565 (by decide) ?_
    exact kk t u r' u' hp hp'
set_option maxHeartbeats 4000000 in
set_option maxRecDepth 100000 in
theorem law_c29 {G : sw_E} {C : sw_C} {k n : Nat} {l : Launch} {b L : Nat} {xs : Nat → Int32} (F : sw_H G C cL_law RL wsL_law) (hF : LF G C l b L xs) {h m o : Nat} {i : Int32} {b0 b1 : Nat} {np th : Int32} {hh : Int64} {S P : Nat → Int64} {ov : Nat → Int64} {fs : List Value} {wX wY : va_W} {S1 S2 : Type} {po : Int64 → S1 → Prop} {pr : Int64 → S2 → Prop} {npf thf : S2 → Int32} {hhf : S2 → Int64} {Sf Pf : S2 → Nat → Int64} {rm1 rm2 : Room}
    (ML : sw_M l G yX9_digest wsX9_digest rm1 [.ref h] ((h, .inr (9, fs)) :: wX) (sw_QL G po (fun _ => (h, .inr (9, fs)) :: wX)) 0 0) (hr1 : rm1.cells = 0 ∧ rm1.slots = 0 ∧ rm1.frames ≤ 11 ∧ rm1.locals ≤ 340)
    (MR : sw_M l G yX10_digest wsX10_digest rm2 [.ref m] (lw_rm G m b0 b1 np th hh S P) (sw_QL G pr (fun u => lw_rm G m b0 b1 (npf u) (thf u) (hhf u) (Sf u) (Pf u))) 0 0) (hr2 : rm2.cells = 0 ∧ rm2.slots = 0 ∧ rm2.frames ≤ 11 ∧ rm2.locals ≤ 340)
    (hk : k ≤ room_1.cells) (hn : n ≤ room_1.slots) (hA : ∀ r u r' u', po r u → pr r' u' → r = r')
    (kk : ∀ r u r' u', po r u → pr r' u' → SW G C k n (lw_rm G m b0 b1 (npf u') (thf u') (hhf u') (Sf u') (Pf u') ++ (lw_out G o ov :: ((((h, .inr (9, fs)) :: wX)) ++ wY))) [(4, .int i), (3, .ref o), (2, .ref m), (1, .ref h), (0, .ref b)] 1582 []) : SW G C k n (lw_rm G m b0 b1 np th hh S P ++ (lw_out G o ov :: ((((h, .inr (9, fs)) :: wX)) ++ wY))) [(4, .int i), (3, .ref o), (2, .ref m), (1, .ref h), (0, .ref b)] 1568 [] := by
  refine sw_aload_n (pc := 1568) F dL_law_1568 rfl 3 rfl ?_
  refine ly_calll (pc := 1569) (k' := k) (n' := n) (P := lw_rm G m b0 b1 np th hh S P ++ [lw_out G o ov]) (Q := (h, .inr (9, fs)) :: wX) (R := wY) F (sw_runV (R := room_1) (q0 := 0) (na := 0) (ci := 9) F hF.2.1 hF.2.2.1 ML (List.range' (lw_rm G m b0 b1 np th hh S P ++ [lw_out G o ov]).length (((h, .inr (9, fs)) :: wX) : va_W).length) (ly_map (lw_rm G m b0 b1 np th hh S P ++ [lw_out G o ov]) ((h, .inr (9, fs)) :: wX) wY) (ly_nd _ _) gL_law_X9_digest rfl hr1.1 hr1.2.1 (by decide +kernel) ⟨Nat.succ_le_succ hr1.2.2.1, lw_room hr1.2.2.2 (Nat.le_of_ble_eq_true rfl)⟩ rfl rfl rfl rfl rfl (Nat.le_of_ble_eq_true rfl) dL_law_1569 hk hn) rfl rfl (fun r u hp => ?_)
  refine sw_aload_n (pc := 1572) F dL_law_1572 rfl 2 rfl ?_
  refine ly_calll (pc := 1573) (k' := k) (n' := n) (P := []) (Q := lw_rm G m b0 b1 np th hh S P) (R := lw_out G o ov :: (((h, .inr (9, fs)) :: wX) ++ wY)) F (sw_runV (R := room_1) (q0 := 0) (na := 0) (ci := 10) F hF.2.1 hF.2.2.1 MR (List.range' 0 3) (ly_map [] (lw_rm G m b0 b1 np th hh S P) (lw_out G o ov :: (((h, .inr (9, fs)) :: wX) ++ wY))) (ly_nd _ _) gL_law_X10_digest rfl hr2.1 hr2.2.1 (by decide +kernel) ⟨Nat.succ_le_succ hr2.2.2.1, lw_room hr2.2.2.2 (Nat.le_of_ble_eq_true rfl)⟩ rfl rfl rfl rfl rfl (Nat.le_of_ble_eq_true rfl) dL_law_1573 hk hn) rfl rfl (fun r' u' hp' => ?_)
  have hA1 := hA r u r' u' hp hp'
  refine sw_lcmp_eq (pc := 1576) (tgt := 1582) F dL_law_1576 dL_law_1577 (by decide) (fun _ => ?_) (fun y => absurd hA1 y)
  exact kk r u r' u' hp hp'
