/-! ===== THE LAW'S OWN ROWS: callers of methods with a table, worlds in three pieces, the script, the end ===== -/
theorem ly_map (P Q R : va_W) : (List.range' P.length Q.length).map (fun i => (P ++ (Q ++ R))[i]?) = Q.map some := by
  apply List.ext_getElem?
  intro j
  rw [List.getElem?_map, List.getElem?_map]
  rcases Nat.lt_or_ge j Q.length with h | h
  · rw [List.getElem?_range' (by omega)]
    simp only [Option.map_some, Nat.one_mul]
    rw [List.getElem?_append_right (by omega), show P.length + j - P.length = j by omega, List.getElem?_append_left h, List.getElem?_eq_getElem h]
    rfl
  · rw [List.getElem?_eq_none (by simp; omega), List.getElem?_eq_none h]
    rfl
theorem ly_map0 (P R : va_W) : (List.range' 0 P.length).map (fun i => (P ++ R)[i]?) = P.map some := ly_map [] P R
theorem ly_map2 (P Q R : va_W) : (List.range' (P.length + Q.length) R.length).map (fun i => (P ++ (Q ++ R))[i]?) = R.map some := by
  have h := ly_map (P ++ Q) R []
  rw [List.length_append, List.append_nil, List.append_assoc] at h
  exact h
theorem ly_mapR (P Q R : va_W) : (List.range' 0 P.length ++ List.range' (P.length + Q.length) R.length).map (fun i => (P ++ (Q ++ R))[i]?) = (P ++ R).map some := by
  rw [List.map_append, List.map_append, ly_map0 P (Q ++ R), ly_map2 P Q R]
theorem ly_nd (a n : Nat) : va_nd (List.range' a n) = true := va_nd_of _ List.nodup_range'
theorem ly_ndR (p q r : Nat) : va_nd (List.range' 0 p ++ List.range' (p + q) r) = true := by
  apply va_nd_of
  rw [List.nodup_append]
  refine ⟨List.nodup_range', List.nodup_range', fun a ha b hb => ?_⟩
  rw [List.mem_range'_1] at ha hb
  omega
theorem ly_dis (p q r : Nat) : ∀ i ∈ List.range' 0 p ++ List.range' (p + q) r, i ∉ List.range' p q := by
  intro i hi h
  rw [List.mem_range'_1] at h
  rw [List.mem_append, List.mem_range'_1, List.mem_range'_1] at hi
  omega
section LY
variable {G : sw_E} {C : sw_C} {cc : ByteArray} {own : String} {Ts : List Cond} {k n : Nat} {P Q R ws : va_W} {lv : List (Nat × Value)} {pc : Nat} {rest st0 : List Value}
/-- the pieces' order -/
theorem ly_swap {st : List Value} (kk : SW G C k n (P ++ (Q ++ R)) lv pc st) : SW G C k n ((P ++ R) ++ Q) lv pc st := by
  refine sw_perm (List.range' 0 P.length ++ (List.range' (P.length + R.length) Q.length ++ List.range' P.length R.length)) ?_ ?_ kk
  · apply va_nd_of
    rw [List.nodup_append, List.nodup_append]
    refine ⟨List.nodup_range', ⟨List.nodup_range', List.nodup_range', fun a ha b hb => ?_⟩, fun a ha b hb => ?_⟩
    · rw [List.mem_range'_1] at ha hb; omega
    · rw [List.mem_append, List.mem_range'_1, List.mem_range'_1] at hb
      rw [List.mem_range'_1] at ha
      omega
  · rw [List.append_assoc, List.map_append, List.map_append, List.map_append, List.map_append, ly_map0 P (R ++ Q), ly_map P R Q, ly_map2 P R Q]
theorem ly_calli {S : Type} {post : Int32 → S → Prop} {wf : S → va_W} {mc ms k' n' : Nat} {av : List Value} (F : sw_H G C cc own Ts) (hrun : sw_Run G C k n (P ++ (Q ++ R)) lv pc st0 rest mc ms Q (sw_QI G post wf) av) (hk : k + mc = k') (hn : n + ms = n') (kk : ∀ (r : Int32) (u : S), post r u → SW G C k' n' (P ++ (wf u ++ R)) lv (pc + 3) (.int r :: rest)) : SW G C k n (P ++ (Q ++ R)) lv pc st0 :=
  sw_calli F hrun (List.range' P.length Q.length) (List.range' 0 P.length ++ List.range' (P.length + Q.length) R.length) (ly_map P Q R) (ly_mapR P Q R) (ly_ndR _ _ _) (ly_dis _ _ _) hk hn (fun r u h => ly_swap (kk r u h))
theorem ly_calll {S : Type} {post : Int64 → S → Prop} {wf : S → va_W} {mc ms k' n' : Nat} {av : List Value} (F : sw_H G C cc own Ts) (hrun : sw_Run G C k n (P ++ (Q ++ R)) lv pc st0 rest mc ms Q (sw_QL G post wf) av) (hk : k + mc = k') (hn : n + ms = n') (kk : ∀ (r : Int64) (u : S), post r u → SW G C k' n' (P ++ (wf u ++ R)) lv (pc + 3) (.long r :: rest)) : SW G C k n (P ++ (Q ++ R)) lv pc st0 :=
  sw_calll F hrun (List.range' P.length Q.length) (List.range' 0 P.length ++ List.range' (P.length + Q.length) R.length) (ly_map P Q R) (ly_mapR P Q R) (ly_ndR _ _ _) (ly_dis _ _ _) hk hn (fun r u h => ly_swap (kk r u h))
theorem ly_callv {S : Type} {post : S → Prop} {wf : S → va_W} {mc ms k' n' : Nat} {av : List Value} (F : sw_H G C cc own Ts) (hrun : sw_Run G C k n (P ++ (Q ++ R)) lv pc st0 rest mc ms Q (sw_QV G post wf) av) (hk : k + mc = k') (hn : n + ms = n') (kk : ∀ (u : S), post u → SW G C k' n' (P ++ (wf u ++ R)) lv (pc + 3) rest) : SW G C k n (P ++ (Q ++ R)) lv pc st0 :=
  sw_callv F hrun (List.range' P.length Q.length) (List.range' 0 P.length ++ List.range' (P.length + Q.length) R.length) (ly_map P Q R) (ly_mapR P Q R) (ly_ndR _ _ _) (ly_dis _ _ _) hk hn (fun u h => ly_swap (kk u h))
/-- a static method with a table, that nothing leaves -/
def ly_Run (G : sw_E) (C : sw_C) (k n : Nat) (ws : va_W) (lv : List (Nat × Value)) (pc : Nat) (st0 rest : List Value) (mc ms : Nat) (wc : va_W) (Qf : sw_Qt) (av : List Value) : Prop :=
  ∀ (H : Heap) (locs : List Loc) (ls : Array Slot), va_P G.1 vwCl ws H → va_D (sw_A C) ws → va_S (sw_A C) (sw_s C).heap H locs → lv_has ls (sw_n C) lv →
    vx_Run (sw_p C) (sw_l C) (sw_e C) (sw_R C) (sw_s C) (sw_m C) (sw_a C) (sw_b C) (sw_t C) (sw_c C) H locs k n mc ms (F0 (sw_m C) pc ls st0) rest (Qf (va_A wc H.size) av.toArray) (sy_XC (va_A wc H.size)) (va_A wc H.size)
theorem ly_runS {l : Launch} {Ro rm : Room} {y : MethodName} {bytes : ByteArray} {maxL mc ms index na : Nat} {ret : Option FieldType} {hh : List (Nat × Nat × Nat × Nat)} {wds ws' : List Cond} {as : List Value} {wc : va_W} {Qf : sw_Qt} (F : sw_H G C cc own Ts) (hY : sy_N (sw_s C)) (hR : sw_R C = Ro) (hl9 : sw_l C = l) (M : sy_M l G y wds rm as wc Qf mc ms) (isC : List Nat) (hC : isC.map (fun i => ws[i]?) = wc.map some) (hnd : va_nd isC = true) (hT : GoodIn Ts (va_wsS own index y wds)) (hw : wds = Cond.codeWith y bytes maxL ret hh :: ws') (hrc : rm.cells = mc) (hrs : rm.slots = ms)
    (hd : y.cls ≠ "java/lang/invoke/MethodHandle" ∧ y.cls ≠ "java/lang/invoke/VarHandle" ∧ (parseMethodDescriptor y.desc).map (fun d => d.parameters.length) = some na) (hRm : rm.frames + 1 ≤ Ro.frames ∧ 8 + (maxL + 11) + rm.locals ≤ Ro.locals) (hna : as.length = na) (hst : st0 = as.reverse ++ rest) (h8 : (rest.map fun v => v.category).sum ≤ 8) (hdg : decode cc pc = .ok (.invokestatic index, 3)) (hk : k + mc ≤ Ro.cells) (hn : n + ms ≤ Ro.slots) :
    ly_Run G C k n ws lv pc st0 rest mc ms wc Qf as := by
  subst hR; subst hl9; subst hst
  intro H locs ls hP hD hS hl
  have hp := sw_pre F (av := as) hP hD hS isC hC hnd
  exact vx_runSX (As := as) (rest := rest) ⟨F.1, F.2.1, F.2.2.2.2.1, F.2.2.1, F.2.2.2.1⟩ (M H.size) (vx_cwSW na F.2.2.2.1 hT hw hrc hrs hd hRm) ⟨sy_blind, fun U hU hW => ⟨hp.2 U hU hW, hY.warm hW⟩⟩ rfl hna hl.1 rfl (lv_room h8) hdg ⟨hk, hn⟩
theorem ly_calliX {S : Type} {post : Int32 → S → Prop} {wf : S → va_W} {mc ms k' n' : Nat} {av : List Value} (F : sw_H G C cc own Ts) (hrun : ly_Run G C k n (P ++ (Q ++ R)) lv pc st0 rest mc ms Q (sw_QI G post wf) av) (hk : k + mc = k') (hn : n + ms = n') (kk : ∀ (r : Int32) (u : S), post r u → SW G C k' n' (P ++ (wf u ++ R)) lv (pc + 3) (.int r :: rest)) : SW G C k n (P ++ (Q ++ R)) lv pc st0 := by
  subst hk; subst hn
  intro H locs ls hP hD hS hl
  have hC := ly_map P Q R
  have hFc := va_free hD hS F.2.2.2.2.2.2.2.1 (List.range' P.length Q.length) hC
  refine vx_calli (a := av.toArray) (hrun H locs ls hP hD hS hl) hS (fun q _ h => hFc q h) hFc (fun q _ h => hFc q h) (fun E ce q9 u t H1 locs1 ht hvm hf => hf.elim) (fun r u t H1 locs1 ht hvm hpost hB hz hk1 hS1 => ?_)
  obtain ⟨hP1, hK1, hD1⟩ := hB
  rw [ht] at hP1
  obtain ⟨hP2, hD2⟩ := va_join hP hD (List.range' P.length Q.length) (List.range' 0 P.length ++ List.range' (P.length + Q.length) R.length) hC (ly_mapR P Q R) (ly_ndR _ _ _) (ly_dis _ _ _) hk1 hFc hP1 hD1
  exact ly_swap (kk r u hpost) H1 locs1 ls hP2 hD2 hS1 hl
/-- the script: a row that lies outside the world -/
theorem ly_sld (F : sw_H G C cc own Ts) {b L : Nat} {xs : Nat → Int32} (hX : va_X b L xs (sw_s C) (sw_s C).heap) (hbl : b < (sw_s C).heap.size) (hbA : ¬ sw_A C b) {i : Int32} (hin : vp_in i L) (hdg : decode cc pc = .ok (.iaload, 1)) (kk : SW G C k n ws lv (pc + 1) (.int (xs i.toNatClampNeg) :: rest)) : SW G C k n ws lv pc (.int i :: .ref b :: rest) :=
  fun H locs ls hP hD hS hl => va_sld F.1 F.2.1 hX hbl hbA hS hin hdg (kk H locs ls hP hD hS hl)
theorem ly_slen (F : sw_H G C cc own Ts) {b L : Nat} {xs : Nat → Int32} (hX : va_X b L xs (sw_s C) (sw_s C).heap) (hbl : b < (sw_s C).heap.size) (hbA : ¬ sw_A C b) (hdg : decode cc pc = .ok (.arraylength, 1)) (kk : SW G C k n ws lv (pc + 1) (.int (Int32.ofNat L) :: rest)) : SW G C k n ws lv pc (.ref b :: rest) :=
  fun H locs ls hP hD hS hl => va_slen F.1 F.2.1 hX hbl hbA hS hdg (kk H locs ls hP hD hS hl)
end LY
