/-! ===== THE LAW'S STEPS ===== -/
abbrev lw_fc (h : Nat) (na ba ca fa : Nat → Nat) (sv : Int32) : Nat × va_E := (h, .inr (9, [.ref (na 0), .ref (ba 0), .ref (ca 0), .ref (fa 0), .int sv]))
/-- the law's world: the reference, the answer's row, the class with its four states -/
def WL (G : sw_E) (h m o b0 b1 : Nat) (na ba ca fa : Nat → Nat) (kq : Nat) (th : Int32) (hh : Int64) (x y1 y2 y3 : XS) (S P ov : Nat → Int64) : va_W :=
  lw_rm G m b0 b1 (nI kq) th hh S P ++ ((lw_out G o ov :: lw_fc h na ba ca fa (nI kq) :: (stw G na x ++ stw G fa y3)) ++ (stw G ba y1 ++ stw G ca y2))
def KK (G : sw_E) (C : sw_C) (k n : Nat) (T : Int) (h m o b0 b1 b : Nat) (i : Int32) : Prop :=
  ∀ (k' n' : Nat) (na ba ca fa : Nat → Nat) (kq : Nat) (th : Int32) (hh : Int64) (x y1 y2 y3 : XS) (S P ov : Nat → Int64), k' ≤ k + 1 → n' ≤ n + 6 → PX (T + 80004) kq x y1 y2 y3 S P →
    SW G C k' n' (WL G h m o b0 b1 na ba ca fa kq th hh x y1 y2 y3 S P ov) [(4, .int i), (3, .ref o), (2, .ref m), (1, .ref h), (0, .ref b)] 1582 []
section LS
variable {G : sw_E} {C : sw_C} {k n : Nat} {T : Int} {h m o b0 b1 b : Nat} {i : Int32} {na ba ca fa : Nat → Nat} {kq : Nat} {x y1 y2 y3 : XS} {S P : Nat → Int64}
theorem fin_same {k' n' : Nat} {th : Int32} {hh : Int64} {ov : Nat → Int64} (kk : KK G C k n T h m o b0 b1 b i) (hp : PX T kq x y1 y2 y3 S P) (h1 : k' ≤ k + 1) (h2 : n' ≤ n + 6) :
    SW G C k' n' (lw_rm G m b0 b1 (nI kq) th hh S P ++ ((lw_out G o ov :: lw_fc h na ba ca fa (nI kq) :: (stw G na x ++ stw G fa y3)) ++ (stw G ba y1 ++ stw G ca y2))) [(4, .int i), (3, .ref o), (2, .ref m), (1, .ref h), (0, .ref b)] 1582 [] :=
  kk k' n' na ba ca fa kq th hh x y1 y2 y3 S P ov h1 h2 (PX_mono hp (by omega))
theorem wl_read (th : Int32) (hh : Int64) (ov : Nat → Int64) : WL G h m o b0 b1 na ba ca fa kq th hh x y1 y2 y3 S P ov = lw_rm G m b0 b1 (nI kq) th hh S P ++ ((lw_out G o ov :: lw_fc h na ba ca fa (nI kq) :: stw G na x) ++ (stw G fa y3 ++ (stw G ba y1 ++ stw G ca y2))) := by
  unfold WL; simp only [List.cons_append, List.append_assoc]
theorem wl_undo (th : Int32) (hh : Int64) (ov : Nat → Int64) : WL G h m o b0 b1 na ba ca fa kq th hh x y1 y2 y3 S P ov = lw_rm G m b0 b1 (nI kq) th hh S P ++ ((lw_out G o ov :: [lw_fc h na ba ca fa (nI kq)]) ++ (stw G na x ++ (stw G fa y3 ++ (stw G ba y1 ++ stw G ca y2)))) := by
  unfold WL; simp only [List.cons_append, List.append_assoc, List.nil_append]
theorem wl_field (th : Int32) (hh : Int64) (ov : Nat → Int64) : WL G h m o b0 b1 na ba ca fa kq th hh x y1 y2 y3 S P ov = lw_rm G m b0 b1 (nI kq) th hh S P ++ (lw_out G o ov :: ((lw_fc h na ba ca fa (nI kq) :: stw G na x) ++ (stw G fa y3 ++ (stw G ba y1 ++ stw G ca y2)))) := by
  unfold WL; simp only [List.cons_append, List.append_assoc]
theorem fin_read {k' n' : Nat} {th : Int32} {hh : Int64} {ov : Nat → Int64} (kk : KK G C k n T h m o b0 b1 b i) (hp : PX T kq x y1 y2 y3 S P) (h1 : k' ≤ k + 1) (h2 : n' ≤ n + 6) :
    SW G C k' n' (lw_rm G m b0 b1 (nI kq) th hh S P ++ ((lw_out G o ov :: lw_fc h na ba ca fa (nI kq) :: stw G na x) ++ (stw G fa y3 ++ (stw G ba y1 ++ stw G ca y2)))) [(4, .int i), (3, .ref o), (2, .ref m), (1, .ref h), (0, .ref b)] 1582 [] := by
  rw [← wl_read]; exact fin_same kk hp h1 h2
theorem fin_field {k' n' : Nat} {th : Int32} {hh : Int64} {ov : Nat → Int64} (kk : KK G C k n T h m o b0 b1 b i) (hp : PX T kq x y1 y2 y3 S P) (h1 : k' ≤ k + 1) (h2 : n' ≤ n + 6) :
    SW G C k' n' (lw_rm G m b0 b1 (nI kq) th hh S P ++ (lw_out G o ov :: ((lw_fc h na ba ca fa (nI kq) :: stw G na x) ++ (stw G fa y3 ++ (stw G ba y1 ++ stw G ca y2))))) [(4, .int i), (3, .ref o), (2, .ref m), (1, .ref h), (0, .ref b)] 1582 [] := by
  rw [← wl_field]; exact fin_same kk hp h1 h2
theorem fin_save {k' n' : Nat} {hh : Int64} {ov : Nat → Int64} {x' : XS} {S' : Nat → Int64} {U : Int} (kk : KK G C k n T h m o b0 b1 b i) (hp : PX T kq x y1 y2 y3 S P) (hU : T ≤ U) (hU2 : U ≤ T + 80004) (h' : RX U x' S') (h1 : k' ≤ k + 1) (h2 : n' ≤ n + 6) :
    SW G C k' n' (lw_rm G m b0 b1 (nI (if kq = 3 then 3 else kq + 1)) 0 hh S' (md_save kq S P) ++ ((lw_out G o ov :: ([(h, .inr (9, [.ref (na 0), .ref (fa 0), .ref (ba 0), .ref (ca 0), .int (f_save_sv (nI kq))]))] ++ stw G na x' ++ stw G fa (st_copy x y3))) ++ (stw G ba y1 ++ stw G ca y2))) [(4, .int i), (3, .ref o), (2, .ref m), (1, .ref h), (0, .ref b)] 1582 [] := by
  rw [PX_sv hp.1]
  have hq := PX_mono (PX_save hp hU h') hU2
  refine sw_eq (ws' := ((lw_rm G m b0 b1 (nI (if kq = 3 then 3 else kq + 1)) 0 hh S' (md_save kq S P) ++ (lw_out G o ov :: lw_fc h na fa ba ca (nI (if kq = 3 then 3 else kq + 1)) :: stw G na x')) ++ (stw G fa (st_copy x y3) ++ stw G ba y1)) ++ stw G ca y2) (by simp only [List.cons_append, List.append_assoc, List.nil_append]) rfl rfl ?_
  refine ly_swap ?_
  refine sw_eq (ws' := WL G h m o b0 b1 na fa ba ca (if kq = 3 then 3 else kq + 1) 0 hh x' (st_copy x y3) y1 y2 S' (md_save kq S P) ov) (by unfold WL; simp only [List.cons_append, List.append_assoc]) rfl rfl ?_
  exact kk k' n' na fa ba ca _ 0 hh x' (st_copy x y3) y1 y2 S' (md_save kq S P) ov h1 h2 hq
theorem fin_undo {k' n' : Nat} {th : Int32} {hh : Int64} {ov : Nat → Int64} {kp : Nat} (kk : KK G C k n T h m o b0 b1 b i) (hp : PX T (kp + 1) x y1 y2 y3 S P) (h1 : k' ≤ k + 1) (h2 : n' ≤ n + 6) :
    SW G C k' n' (lw_rm G m b0 b1 (nI kp) th hh (md_u (344 * kp) 344 S P) P ++ ((lw_out G o ov :: [(h, .inr (9, [.ref (ba 0), .ref (ca 0), .ref (fa 0), .ref (na 0), .int (nI kp)]))]) ++ (stw G na x ++ (stw G fa y3 ++ (stw G ba y1 ++ stw G ca y2))))) [(4, .int i), (3, .ref o), (2, .ref m), (1, .ref h), (0, .ref b)] 1582 [] := by
  have hq := PX_mono (PX_undo hp) (show T ≤ T + 80004 by omega)
  obtain ⟨X, hX⟩ : ∃ X : va_W, X = lw_rm G m b0 b1 (nI kp) th hh (md_u (344 * kp) 344 S P) P ++ (lw_out G o ov :: [lw_fc h ba ca fa na (nI kp)]) := ⟨_, rfl⟩
  refine sw_eq (ws' := (X ++ (stw G na x ++ stw G fa y3)) ++ (stw G ba y1 ++ stw G ca y2)) (by rw [hX]; simp only [List.cons_append, List.append_assoc, List.nil_append]) rfl rfl ?_
  refine ly_swap ?_
  refine sw_eq (ws' := ((X ++ stw G ba y1) ++ stw G ca y2) ++ (stw G na x ++ stw G fa y3)) (by simp only [List.append_assoc]) rfl rfl ?_
  refine ly_swap ?_
  refine sw_eq (ws' := (((X ++ stw G ba y1) ++ stw G na x) ++ stw G fa y3) ++ stw G ca y2) (by simp only [List.append_assoc]) rfl rfl ?_
  refine ly_swap ?_
  refine sw_eq (ws' := WL G h m o b0 b1 ba ca fa na kp th hh y1 y2 y3 x (md_u (344 * kp) 344 S P) P ov) (by unfold WL; rw [hX]; simp only [List.cons_append, List.append_assoc, List.nil_append]) rfl rfl ?_
  exact kk k' n' ba ca fa na kp th hh y1 y2 y3 x _ P ov h1 h2 hq
end LS
theorem pz_ix {t N : Int32} {M : Int64} (hM : ∀ z : Int32, z < N ↔ z.toInt64 ≤ M) : f_X10_in_r t.toInt64 0 M = 0 ↔ (t < 0 ∨ ¬ t < N) := by
  rw [in_iff, ← hM, show (0 : Int64) = (0 : Int32).toInt64 from rfl, pz_lt]
theorem pz_lt4 (z : Int32) : z < 4 ↔ z.toInt64 ≤ 3 := by
  rw [Int32.lt_iff_toInt_lt, Int64.le_iff_toInt_le, pz_t]; show z.toInt < 4 ↔ z.toInt ≤ 3; omega
theorem pz_lt5 (z : Int32) : z < 5 ↔ z.toInt64 ≤ 4 := by
  rw [Int32.lt_iff_toInt_lt, Int64.le_iff_toInt_le, pz_t]; show z.toInt < 5 ↔ z.toInt ≤ 4; omega
theorem pz_lt6 (z : Int32) : z < 6 ↔ z.toInt64 ≤ 5 := by
  rw [Int32.lt_iff_toInt_lt, Int64.le_iff_toInt_le, pz_t]; show z.toInt < 6 ↔ z.toInt ≤ 5; omega
theorem pz_nat {t : Int32} (h : ¬ t < 0) : ∃ N : Nat, t = nI N ∧ (N : Int) = t.toInt := by
  rw [Int32.lt_iff_toInt_lt] at h
  have h' : ¬ t.toInt < 0 := h
  refine ⟨t.toInt.toNat, ?_, by omega⟩
  have hb := t.toInt_lt
  apply Int32.toInt_inj.mp
  rw [pn_t (by omega)]; omega
theorem pz_six {t : Int32} (h : ¬ (t < 0 ∨ ¬ t < 6)) : t = 0 ∨ t = 1 ∨ t = 2 ∨ t = 3 ∨ t = 4 ∨ t = 5 := by
  have h0 : ¬ t < 0 := fun z => h (Or.inl z)
  have h1 : t < 6 := Classical.byContradiction fun z => h (Or.inr z)
  obtain ⟨N, rfl, hN⟩ := pz_nat h0
  rw [Int32.lt_iff_toInt_lt] at h1
  have h2 : (nI N).toInt < 6 := h1
  have : N < 6 := by omega
  match N, this with
  | 0, _ => exact Or.inl rfl
  | 1, _ => exact Or.inr (Or.inl rfl)
  | 2, _ => exact Or.inr (Or.inr (Or.inl rfl))
  | 3, _ => exact Or.inr (Or.inr (Or.inr (Or.inl rfl)))
  | 4, _ => exact Or.inr (Or.inr (Or.inr (Or.inr (Or.inl rfl))))
  | 5, _ => exact Or.inr (Or.inr (Or.inr (Or.inr (Or.inr rfl))))
  | n + 6, h => exact absurd h (by omega)
theorem pz_five {t : Int32} (h : ¬ (t < 0 ∨ ¬ t < 5)) : t = 0 ∨ t = 1 ∨ t = 2 ∨ t = 3 ∨ t = 4 := by
  have h1 : t < 5 := Classical.byContradiction fun z => h (Or.inr z)
  have h6 : ¬ (t < 0 ∨ ¬ t < 6) := fun z => z.elim (fun k => h (Or.inl k)) (fun k => k (Int32.lt_trans h1 (by decide)))
  rcases pz_six h6 with e | e | e | e | e | e
  · exact Or.inl e
  · exact Or.inr (Or.inl e)
  · exact Or.inr (Or.inr (Or.inl e))
  · exact Or.inr (Or.inr (Or.inr (Or.inl e)))
  · exact Or.inr (Or.inr (Or.inr (Or.inr e)))
  · rw [e] at h1; exact absurd h1 (by decide)
theorem pz_four {t : Int32} (h : ¬ (t < 0 ∨ ¬ t < 4)) : t = 0 ∨ t = 1 ∨ t = 2 ∨ t = 3 := by
  have h1 : t < 4 := Classical.byContradiction fun z => h (Or.inr z)
  have h6 : ¬ (t < 0 ∨ ¬ t < 5) := fun z => z.elim (fun k => h (Or.inl k)) (fun k => k (Int32.lt_trans h1 (by decide)))
  rcases pz_five h6 with e | e | e | e | e
  · exact Or.inl e
  · exact Or.inr (Or.inl e)
  · exact Or.inr (Or.inr (Or.inl e))
  · exact Or.inr (Or.inr (Or.inr e))
  · rw [e] at h1; exact absurd h1 (by decide)
theorem pz_inN {t : Int32} {N : Int32} (h : ¬ (t < 0 ∨ ¬ t < N)) : ¬ t < 0 ∧ t < N := ⟨fun z => h (Or.inl z), Classical.byContradiction fun z => h (Or.inr z)⟩
theorem pz_inV {v lo hi : Int64} (h : ¬ (v < lo ∨ ¬ v ≤ hi)) : ¬ v < lo ∧ v ≤ hi := ⟨fun z => h (Or.inl z), Classical.byContradiction fun z => h (Or.inr z)⟩
set_option maxHeartbeats 4000000 in
set_option maxRecDepth 100000 in
theorem law_s0 {G : sw_E} {C : sw_C} {k n : Nat} {l : Launch} {b L : Nat} {xs : Nat → Int32} (F : sw_H G C cL_law RL wsL_law) (hF : LF G C l b L xs) (hst : l.stackTraces = false) {h m o : Nat} {i : Int32} {a1 a2 : Int32} (hi1 : vp_in (i + 1) L) (e1 : xs (i + 1).toNatClampNeg = a1) (hi2 : vp_in (i + 2) L) (e2 : xs (i + 2).toNatClampNeg = a2) {b0 b1 : Nat} {na ba ca fa : Nat → Nat} {kq : Nat} {th : Int32} {hh : Int64} {x y1 y2 y3 : XS} {S P ov : Nat → Int64} {T : Int} (hT : T < 1900000000) (hp : PX T kq x y1 y2 y3 S P) (hk : k + 1 ≤ room_1.cells) (hn : n + 6 ≤ room_1.slots) (kk : KK G C k n T h m o b0 b1 b i) :
    SW G C k n (WL G h m o b0 b1 na ba ca fa kq th hh x y1 y2 y3 S P ov) [(4, .int i), (3, .ref o), (2, .ref m), (1, .ref h), (0, .ref b)] 172 [] := by
  have hR := hp.2.1
  have hkq : kq < 4 := Nat.lt_succ_of_le hp.1
  by_cases ht : a1 < 0 ∨ ¬ a1 < 4
  · skip
    refine law_c0 (wA := lw_fc h na ba ca fa (nI kq) :: (stw G na x ++ stw G fa y3)) (wR := stw G ba y1 ++ stw G ca y2) (mc := 1) (ms := 6) F hF hi1 e1 hi2 e2 (po := fun r (_ : Unit) => r = 1) (ovf := fun _ => ov) (wAf := fun _ => lw_fc h na ba ca fa (nI kq) :: (stw G na x ++ stw G fa y3)) (pr := fun r (_ : Unit) => r = 0) (npf := fun _ => nI kq) (thf := fun _ => 1) (hhf := fun _ => hh) (Sf := fun _ => S) (Pf := fun _ => P)
      (kt_L_setSpan_1 l G h a1 a2 o ov _ (stw G na x ++ stw G fa y3) _ [] rfl (by decide) (kt_X9_setSpan_f1 l G h a1 a2 hst ht) rfl rfl (by decide) (by decide))
      (k_X10_setSpan_f1 l G m b0 b1 (nI kq) th hh S P a1 a2 ((pz_ix pz_lt4).mpr ht)) ⟨rfl, rfl, by decide, by decide⟩ hk hn (fun r u r' u' h1 h2 => ⟨h1.symm, fun z => absurd (h1.symm.trans z) (by decide)⟩) (fun r u r' u' h1 h2 => fin_same kk hp (Nat.le_refl _) (Nat.le_refl _))
  by_cases hv : a2.toInt64 < 100 ∨ ¬ a2.toInt64 ≤ 30000
  · skip
    refine law_c0 (wA := lw_fc h na ba ca fa (nI kq) :: (stw G na x ++ stw G fa y3)) (wR := stw G ba y1 ++ stw G ca y2) (mc := 1) (ms := 6) F hF hi1 e1 hi2 e2 (po := fun r (_ : Unit) => r = 2) (ovf := fun _ => ov) (wAf := fun _ => lw_fc h na ba ca fa (nI kq) :: (stw G na x ++ stw G fa y3)) (pr := fun r (_ : Unit) => r = 0) (npf := fun _ => nI kq) (thf := fun _ => 2) (hhf := fun _ => hh) (Sf := fun _ => S) (Pf := fun _ => P)
      (kt_L_setSpan_2 l G h a1 a2 o ov _ (stw G na x ++ stw G fa y3) _ [] rfl (by decide) (kt_X9_setSpan_f2 l G h a1 a2 hst (pz_inN ht).1 (pz_inN ht).2 hv) rfl rfl (by decide) (by decide))
      (k_X10_setSpan_f2 l G m b0 b1 (nI kq) th hh S P a1 a2 (fun z => ht ((pz_ix pz_lt4).mp z)) (in_iff.mpr hv)) ⟨rfl, rfl, by decide, by decide⟩ hk hn (fun r u r' u' h1 h2 => ⟨h1.symm, fun z => absurd (h1.symm.trans z) (by decide)⟩) (fun r u r' u' h1 h2 => fin_same kk hp (Nat.le_refl _) (Nat.le_refl _))
  obtain ⟨v0, v1⟩ := pz_inV hv
  have hc : 0 ≤ (S 253).toInt ∧ (S 253).toInt ≤ 30 := (rx_mI hR).1
  rcases pz_four ht with e | e | e | e
  · subst e
    obtain ⟨q1, q2⟩ := rs_setSpan_0 hR a2 v0 v1
    refine law_c0 (wA := lw_fc h na ba ca fa (nI kq) :: (stw G na x ++ stw G fa y3)) (wR := stw G ba y1 ++ stw G ca y2) (mc := 0) (ms := 0) F hF hi1 e1 hi2 e2 (po := fun r (u : Int32 × Unit) => r = 0 ∧ u.1 = fa_X9_setSpan_0_r x) (ovf := fun u => vp_updL ov 0 u.1.toInt64) (wAf := fun _ => [(h, .inr (9, [.ref (na 0), .ref (fa 0), .ref (ba 0), .ref (ca 0), .int (f_save_sv (nI kq))]))] ++ stw G na (sa_X9_setSpan_0 x a2) ++ stw G fa (st_copy x y3)) (S2 := Int32 × (Nat → Int64) × (Nat → Int64)) (npf := fun u => u.1) (thf := fun _ => 0) (hhf := fun _ => hh) (Sf := fun u => u.2.1) (Pf := fun u => u.2.2)
      (k_L_setSpan l G h 0 a2 o ov _ (stw G na x ++ stw G fa y3) (k_X9_setSpan_0 l G h na (ba 0) (ca 0) fa (nI kq) x y3 a2 (rx_xbool hR) v0 v1) rfl rfl (by decide) (by decide))
      (k_X10_setSpan l G m b0 b1 (nI kq) th hh S P kq 0 0 a2 rfl hkq rfl (by decide) v0 v1 hc) ⟨rfl, rfl, by decide, by decide⟩ (Nat.le_trans (Nat.le_succ k) hk) (Nat.le_trans (Nat.le_add_right n 6) hn) (fun r u r' u' h1 h2 => ?_) (fun r u r' u' h1 h2 => ?_)
    · refine ⟨h1.1.symm, fun _ => ?_⟩
      show vp_updL ov 0 u.1.toInt64 0 = r'.toInt64
      rw [vpu_at, h1.2, h2.1, q2]
    · obtain ⟨np', S', P'⟩ := u'
      obtain ⟨g1, g2, g3, g4⟩ := h2
      have g2' : np' = nI (if kq = 3 then 3 else kq + 1) := g2
      have g4' : P' = md_save kq S P := g4
      have g3' : S' = _ := g3
      subst g2'; subst g4'; subst g3'
      exact fin_save kk hp (Int.le_refl T) (by omega) q1 (Nat.le_succ k) (Nat.le_add_right n 6)
  · subst e
    obtain ⟨q1, q2⟩ := rs_setSpan_1 hR a2 v0 v1
    refine law_c0 (wA := lw_fc h na ba ca fa (nI kq) :: (stw G na x ++ stw G fa y3)) (wR := stw G ba y1 ++ stw G ca y2) (mc := 0) (ms := 0) F hF hi1 e1 hi2 e2 (po := fun r (u : Int32 × Unit) => r = 0 ∧ u.1 = fa_X9_setSpan_1_r x) (ovf := fun u => vp_updL ov 0 u.1.toInt64) (wAf := fun _ => [(h, .inr (9, [.ref (na 0), .ref (fa 0), .ref (ba 0), .ref (ca 0), .int (f_save_sv (nI kq))]))] ++ stw G na (sa_X9_setSpan_1 x a2) ++ stw G fa (st_copy x y3)) (S2 := Int32 × (Nat → Int64) × (Nat → Int64)) (npf := fun u => u.1) (thf := fun _ => 0) (hhf := fun _ => hh) (Sf := fun u => u.2.1) (Pf := fun u => u.2.2)
      (k_L_setSpan l G h 1 a2 o ov _ (stw G na x ++ stw G fa y3) (k_X9_setSpan_1 l G h na (ba 0) (ca 0) fa (nI kq) x y3 a2 (rx_xbool hR) v0 v1) rfl rfl (by decide) (by decide))
      (k_X10_setSpan l G m b0 b1 (nI kq) th hh S P kq 1 1 a2 rfl hkq rfl (by decide) v0 v1 hc) ⟨rfl, rfl, by decide, by decide⟩ (Nat.le_trans (Nat.le_succ k) hk) (Nat.le_trans (Nat.le_add_right n 6) hn) (fun r u r' u' h1 h2 => ?_) (fun r u r' u' h1 h2 => ?_)
    · refine ⟨h1.1.symm, fun _ => ?_⟩
      show vp_updL ov 0 u.1.toInt64 0 = r'.toInt64
      rw [vpu_at, h1.2, h2.1, q2]
    · obtain ⟨np', S', P'⟩ := u'
      obtain ⟨g1, g2, g3, g4⟩ := h2
      have g2' : np' = nI (if kq = 3 then 3 else kq + 1) := g2
      have g4' : P' = md_save kq S P := g4
      have g3' : S' = _ := g3
      subst g2'; subst g4'; subst g3'
      exact fin_save kk hp (Int.le_refl T) (by omega) q1 (Nat.le_succ k) (Nat.le_add_right n 6)
  · subst e
    obtain ⟨q1, q2⟩ := rs_setSpan_2 hR a2 v0 v1
    refine law_c0 (wA := lw_fc h na ba ca fa (nI kq) :: (stw G na x ++ stw G fa y3)) (wR := stw G ba y1 ++ stw G ca y2) (mc := 0) (ms := 0) F hF hi1 e1 hi2 e2 (po := fun r (u : Int32 × Unit) => r = 0 ∧ u.1 = fa_X9_setSpan_2_r x) (ovf := fun u => vp_updL ov 0 u.1.toInt64) (wAf := fun _ => [(h, .inr (9, [.ref (na 0), .ref (fa 0), .ref (ba 0), .ref (ca 0), .int (f_save_sv (nI kq))]))] ++ stw G na (sa_X9_setSpan_2 x a2) ++ stw G fa (st_copy x y3)) (S2 := Int32 × (Nat → Int64) × (Nat → Int64)) (npf := fun u => u.1) (thf := fun _ => 0) (hhf := fun _ => hh) (Sf := fun u => u.2.1) (Pf := fun u => u.2.2)
      (k_L_setSpan l G h 2 a2 o ov _ (stw G na x ++ stw G fa y3) (k_X9_setSpan_2 l G h na (ba 0) (ca 0) fa (nI kq) x y3 a2 (rx_xbool hR) v0 v1) rfl rfl (by decide) (by decide))
      (k_X10_setSpan l G m b0 b1 (nI kq) th hh S P kq 2 2 a2 rfl hkq rfl (by decide) v0 v1 hc) ⟨rfl, rfl, by decide, by decide⟩ (Nat.le_trans (Nat.le_succ k) hk) (Nat.le_trans (Nat.le_add_right n 6) hn) (fun r u r' u' h1 h2 => ?_) (fun r u r' u' h1 h2 => ?_)
    · refine ⟨h1.1.symm, fun _ => ?_⟩
      show vp_updL ov 0 u.1.toInt64 0 = r'.toInt64
      rw [vpu_at, h1.2, h2.1, q2]
    · obtain ⟨np', S', P'⟩ := u'
      obtain ⟨g1, g2, g3, g4⟩ := h2
      have g2' : np' = nI (if kq = 3 then 3 else kq + 1) := g2
      have g4' : P' = md_save kq S P := g4
      have g3' : S' = _ := g3
      subst g2'; subst g4'; subst g3'
      exact fin_save kk hp (Int.le_refl T) (by omega) q1 (Nat.le_succ k) (Nat.le_add_right n 6)
  · subst e
    obtain ⟨q1, q2⟩ := rs_setSpan_3 hR a2 v0 v1
    refine law_c0 (wA := lw_fc h na ba ca fa (nI kq) :: (stw G na x ++ stw G fa y3)) (wR := stw G ba y1 ++ stw G ca y2) (mc := 0) (ms := 0) F hF hi1 e1 hi2 e2 (po := fun r (u : Int32 × Unit) => r = 0 ∧ u.1 = fa_X9_setSpan_3_r x) (ovf := fun u => vp_updL ov 0 u.1.toInt64) (wAf := fun _ => [(h, .inr (9, [.ref (na 0), .ref (fa 0), .ref (ba 0), .ref (ca 0), .int (f_save_sv (nI kq))]))] ++ stw G na (sa_X9_setSpan_3 x a2) ++ stw G fa (st_copy x y3)) (S2 := Int32 × (Nat → Int64) × (Nat → Int64)) (npf := fun u => u.1) (thf := fun _ => 0) (hhf := fun _ => hh) (Sf := fun u => u.2.1) (Pf := fun u => u.2.2)
      (k_L_setSpan l G h 3 a2 o ov _ (stw G na x ++ stw G fa y3) (k_X9_setSpan_3 l G h na (ba 0) (ca 0) fa (nI kq) x y3 a2 (rx_xbool hR) v0 v1) rfl rfl (by decide) (by decide))
      (k_X10_setSpan l G m b0 b1 (nI kq) th hh S P kq 3 3 a2 rfl hkq rfl (by decide) v0 v1 hc) ⟨rfl, rfl, by decide, by decide⟩ (Nat.le_trans (Nat.le_succ k) hk) (Nat.le_trans (Nat.le_add_right n 6) hn) (fun r u r' u' h1 h2 => ?_) (fun r u r' u' h1 h2 => ?_)
    · refine ⟨h1.1.symm, fun _ => ?_⟩
      show vp_updL ov 0 u.1.toInt64 0 = r'.toInt64
      rw [vpu_at, h1.2, h2.1, q2]
    · obtain ⟨np', S', P'⟩ := u'
      obtain ⟨g1, g2, g3, g4⟩ := h2
      have g2' : np' = nI (if kq = 3 then 3 else kq + 1) := g2
      have g4' : P' = md_save kq S P := g4
      have g3' : S' = _ := g3
      subst g2'; subst g4'; subst g3'
      exact fin_save kk hp (Int.le_refl T) (by omega) q1 (Nat.le_succ k) (Nat.le_add_right n 6)

set_option maxHeartbeats 4000000 in
set_option maxRecDepth 100000 in
theorem law_s1 {G : sw_E} {C : sw_C} {k n : Nat} {l : Launch} {b L : Nat} {xs : Nat → Int32} (F : sw_H G C cL_law RL wsL_law) (hF : LF G C l b L xs) (hst : l.stackTraces = false) {h m o : Nat} {i : Int32} {a1 a2 : Int32} (hi1 : vp_in (i + 1) L) (e1 : xs (i + 1).toNatClampNeg = a1) (hi2 : vp_in (i + 2) L) (e2 : xs (i + 2).toNatClampNeg = a2) {b0 b1 : Nat} {na ba ca fa : Nat → Nat} {kq : Nat} {th : Int32} {hh : Int64} {x y1 y2 y3 : XS} {S P ov : Nat → Int64} {T : Int} (hT : T < 1900000000) (hp : PX T kq x y1 y2 y3 S P) (hk : k + 1 ≤ room_1.cells) (hn : n + 6 ≤ room_1.slots) (kk : KK G C k n T h m o b0 b1 b i) :
    SW G C k n (WL G h m o b0 b1 na ba ca fa kq th hh x y1 y2 y3 S P ov) [(4, .int i), (3, .ref o), (2, .ref m), (1, .ref h), (0, .ref b)] 240 [] := by
  have hR := hp.2.1
  have hkq : kq < 4 := Nat.lt_succ_of_le hp.1
  by_cases ht : a1 < 0 ∨ ¬ a1 < 4
  · skip
    refine law_c1 (wA := lw_fc h na ba ca fa (nI kq) :: (stw G na x ++ stw G fa y3)) (wR := stw G ba y1 ++ stw G ca y2) (mc := 1) (ms := 6) F hF hi1 e1 hi2 e2 (po := fun r (_ : Unit) => r = 1) (ovf := fun _ => ov) (wAf := fun _ => lw_fc h na ba ca fa (nI kq) :: (stw G na x ++ stw G fa y3)) (pr := fun r (_ : Unit) => r = 0) (npf := fun _ => nI kq) (thf := fun _ => 1) (hhf := fun _ => hh) (Sf := fun _ => S) (Pf := fun _ => P)
      (kt_L_setDamping_1 l G h a1 a2 o ov _ (stw G na x ++ stw G fa y3) _ [] rfl (by decide) (kt_X9_setDamping_f1 l G h a1 a2 hst ht) rfl rfl (by decide) (by decide))
      (k_X10_setDamping_f1 l G m b0 b1 (nI kq) th hh S P a1 a2 ((pz_ix pz_lt4).mpr ht)) ⟨rfl, rfl, by decide, by decide⟩ hk hn (fun r u r' u' h1 h2 => ⟨h1.symm, fun z => absurd (h1.symm.trans z) (by decide)⟩) (fun r u r' u' h1 h2 => fin_same kk hp (Nat.le_refl _) (Nat.le_refl _))
  by_cases hv : a2.toInt64 < 0 ∨ ¬ a2.toInt64 ≤ 8
  · skip
    refine law_c1 (wA := lw_fc h na ba ca fa (nI kq) :: (stw G na x ++ stw G fa y3)) (wR := stw G ba y1 ++ stw G ca y2) (mc := 1) (ms := 6) F hF hi1 e1 hi2 e2 (po := fun r (_ : Unit) => r = 2) (ovf := fun _ => ov) (wAf := fun _ => lw_fc h na ba ca fa (nI kq) :: (stw G na x ++ stw G fa y3)) (pr := fun r (_ : Unit) => r = 0) (npf := fun _ => nI kq) (thf := fun _ => 2) (hhf := fun _ => hh) (Sf := fun _ => S) (Pf := fun _ => P)
      (kt_L_setDamping_2 l G h a1 a2 o ov _ (stw G na x ++ stw G fa y3) _ [] rfl (by decide) (kt_X9_setDamping_f2 l G h a1 a2 hst (pz_inN ht).1 (pz_inN ht).2 hv) rfl rfl (by decide) (by decide))
      (k_X10_setDamping_f2 l G m b0 b1 (nI kq) th hh S P a1 a2 (fun z => ht ((pz_ix pz_lt4).mp z)) (in_iff.mpr hv)) ⟨rfl, rfl, by decide, by decide⟩ hk hn (fun r u r' u' h1 h2 => ⟨h1.symm, fun z => absurd (h1.symm.trans z) (by decide)⟩) (fun r u r' u' h1 h2 => fin_same kk hp (Nat.le_refl _) (Nat.le_refl _))
  obtain ⟨v0, v1⟩ := pz_inV hv
  have hc : 0 ≤ (S 253).toInt ∧ (S 253).toInt ≤ 30 := (rx_mI hR).1
  rcases pz_four ht with e | e | e | e
  · subst e
    obtain ⟨q1, q2⟩ := rs_setDamping_0 hR a2 v0 v1
    refine law_c1 (wA := lw_fc h na ba ca fa (nI kq) :: (stw G na x ++ stw G fa y3)) (wR := stw G ba y1 ++ stw G ca y2) (mc := 0) (ms := 0) F hF hi1 e1 hi2 e2 (po := fun r (u : Int32 × Unit) => r = 0 ∧ u.1 = fa_X9_setDamping_0_r x) (ovf := fun u => vp_updL ov 0 u.1.toInt64) (wAf := fun _ => [(h, .inr (9, [.ref (na 0), .ref (fa 0), .ref (ba 0), .ref (ca 0), .int (f_save_sv (nI kq))]))] ++ stw G na (sa_X9_setDamping_0 x a2) ++ stw G fa (st_copy x y3)) (S2 := Int32 × (Nat → Int64) × (Nat → Int64)) (npf := fun u => u.1) (thf := fun _ => 0) (hhf := fun _ => hh) (Sf := fun u => u.2.1) (Pf := fun u => u.2.2)
      (k_L_setDamping l G h 0 a2 o ov _ (stw G na x ++ stw G fa y3) (k_X9_setDamping_0 l G h na (ba 0) (ca 0) fa (nI kq) x y3 a2 (rx_xbool hR) v0 v1) rfl rfl (by decide) (by decide))
      (k_X10_setDamping l G m b0 b1 (nI kq) th hh S P kq 0 0 a2 rfl hkq rfl (by decide) v0 v1 hc) ⟨rfl, rfl, by decide, by decide⟩ (Nat.le_trans (Nat.le_succ k) hk) (Nat.le_trans (Nat.le_add_right n 6) hn) (fun r u r' u' h1 h2 => ?_) (fun r u r' u' h1 h2 => ?_)
    · refine ⟨h1.1.symm, fun _ => ?_⟩
      show vp_updL ov 0 u.1.toInt64 0 = r'.toInt64
      rw [vpu_at, h1.2, h2.1, q2]
    · obtain ⟨np', S', P'⟩ := u'
      obtain ⟨g1, g2, g3, g4⟩ := h2
      have g2' : np' = nI (if kq = 3 then 3 else kq + 1) := g2
      have g4' : P' = md_save kq S P := g4
      have g3' : S' = _ := g3
      subst g2'; subst g4'; subst g3'
      exact fin_save kk hp (Int.le_refl T) (by omega) q1 (Nat.le_succ k) (Nat.le_add_right n 6)
  · subst e
    obtain ⟨q1, q2⟩ := rs_setDamping_1 hR a2 v0 v1
    refine law_c1 (wA := lw_fc h na ba ca fa (nI kq) :: (stw G na x ++ stw G fa y3)) (wR := stw G ba y1 ++ stw G ca y2) (mc := 0) (ms := 0) F hF hi1 e1 hi2 e2 (po := fun r (u : Int32 × Unit) => r = 0 ∧ u.1 = fa_X9_setDamping_1_r x) (ovf := fun u => vp_updL ov 0 u.1.toInt64) (wAf := fun _ => [(h, .inr (9, [.ref (na 0), .ref (fa 0), .ref (ba 0), .ref (ca 0), .int (f_save_sv (nI kq))]))] ++ stw G na (sa_X9_setDamping_1 x a2) ++ stw G fa (st_copy x y3)) (S2 := Int32 × (Nat → Int64) × (Nat → Int64)) (npf := fun u => u.1) (thf := fun _ => 0) (hhf := fun _ => hh) (Sf := fun u => u.2.1) (Pf := fun u => u.2.2)
      (k_L_setDamping l G h 1 a2 o ov _ (stw G na x ++ stw G fa y3) (k_X9_setDamping_1 l G h na (ba 0) (ca 0) fa (nI kq) x y3 a2 (rx_xbool hR) v0 v1) rfl rfl (by decide) (by decide))
      (k_X10_setDamping l G m b0 b1 (nI kq) th hh S P kq 1 1 a2 rfl hkq rfl (by decide) v0 v1 hc) ⟨rfl, rfl, by decide, by decide⟩ (Nat.le_trans (Nat.le_succ k) hk) (Nat.le_trans (Nat.le_add_right n 6) hn) (fun r u r' u' h1 h2 => ?_) (fun r u r' u' h1 h2 => ?_)
    · refine ⟨h1.1.symm, fun _ => ?_⟩
      show vp_updL ov 0 u.1.toInt64 0 = r'.toInt64
      rw [vpu_at, h1.2, h2.1, q2]
    · obtain ⟨np', S', P'⟩ := u'
      obtain ⟨g1, g2, g3, g4⟩ := h2
      have g2' : np' = nI (if kq = 3 then 3 else kq + 1) := g2
      have g4' : P' = md_save kq S P := g4
      have g3' : S' = _ := g3
      subst g2'; subst g4'; subst g3'
      exact fin_save kk hp (Int.le_refl T) (by omega) q1 (Nat.le_succ k) (Nat.le_add_right n 6)
  · subst e
    obtain ⟨q1, q2⟩ := rs_setDamping_2 hR a2 v0 v1
    refine law_c1 (wA := lw_fc h na ba ca fa (nI kq) :: (stw G na x ++ stw G fa y3)) (wR := stw G ba y1 ++ stw G ca y2) (mc := 0) (ms := 0) F hF hi1 e1 hi2 e2 (po := fun r (u : Int32 × Unit) => r = 0 ∧ u.1 = fa_X9_setDamping_2_r x) (ovf := fun u => vp_updL ov 0 u.1.toInt64) (wAf := fun _ => [(h, .inr (9, [.ref (na 0), .ref (fa 0), .ref (ba 0), .ref (ca 0), .int (f_save_sv (nI kq))]))] ++ stw G na (sa_X9_setDamping_2 x a2) ++ stw G fa (st_copy x y3)) (S2 := Int32 × (Nat → Int64) × (Nat → Int64)) (npf := fun u => u.1) (thf := fun _ => 0) (hhf := fun _ => hh) (Sf := fun u => u.2.1) (Pf := fun u => u.2.2)
      (k_L_setDamping l G h 2 a2 o ov _ (stw G na x ++ stw G fa y3) (k_X9_setDamping_2 l G h na (ba 0) (ca 0) fa (nI kq) x y3 a2 (rx_xbool hR) v0 v1) rfl rfl (by decide) (by decide))
      (k_X10_setDamping l G m b0 b1 (nI kq) th hh S P kq 2 2 a2 rfl hkq rfl (by decide) v0 v1 hc) ⟨rfl, rfl, by decide, by decide⟩ (Nat.le_trans (Nat.le_succ k) hk) (Nat.le_trans (Nat.le_add_right n 6) hn) (fun r u r' u' h1 h2 => ?_) (fun r u r' u' h1 h2 => ?_)
    · refine ⟨h1.1.symm, fun _ => ?_⟩
      show vp_updL ov 0 u.1.toInt64 0 = r'.toInt64
      rw [vpu_at, h1.2, h2.1, q2]
    · obtain ⟨np', S', P'⟩ := u'
      obtain ⟨g1, g2, g3, g4⟩ := h2
      have g2' : np' = nI (if kq = 3 then 3 else kq + 1) := g2
      have g4' : P' = md_save kq S P := g4
      have g3' : S' = _ := g3
      subst g2'; subst g4'; subst g3'
      exact fin_save kk hp (Int.le_refl T) (by omega) q1 (Nat.le_succ k) (Nat.le_add_right n 6)
  · subst e
    obtain ⟨q1, q2⟩ := rs_setDamping_3 hR a2 v0 v1
    refine law_c1 (wA := lw_fc h na ba ca fa (nI kq) :: (stw G na x ++ stw G fa y3)) (wR := stw G ba y1 ++ stw G ca y2) (mc := 0) (ms := 0) F hF hi1 e1 hi2 e2 (po := fun r (u : Int32 × Unit) => r = 0 ∧ u.1 = fa_X9_setDamping_3_r x) (ovf := fun u => vp_updL ov 0 u.1.toInt64) (wAf := fun _ => [(h, .inr (9, [.ref (na 0), .ref (fa 0), .ref (ba 0), .ref (ca 0), .int (f_save_sv (nI kq))]))] ++ stw G na (sa_X9_setDamping_3 x a2) ++ stw G fa (st_copy x y3)) (S2 := Int32 × (Nat → Int64) × (Nat → Int64)) (npf := fun u => u.1) (thf := fun _ => 0) (hhf := fun _ => hh) (Sf := fun u => u.2.1) (Pf := fun u => u.2.2)
      (k_L_setDamping l G h 3 a2 o ov _ (stw G na x ++ stw G fa y3) (k_X9_setDamping_3 l G h na (ba 0) (ca 0) fa (nI kq) x y3 a2 (rx_xbool hR) v0 v1) rfl rfl (by decide) (by decide))
      (k_X10_setDamping l G m b0 b1 (nI kq) th hh S P kq 3 3 a2 rfl hkq rfl (by decide) v0 v1 hc) ⟨rfl, rfl, by decide, by decide⟩ (Nat.le_trans (Nat.le_succ k) hk) (Nat.le_trans (Nat.le_add_right n 6) hn) (fun r u r' u' h1 h2 => ?_) (fun r u r' u' h1 h2 => ?_)
    · refine ⟨h1.1.symm, fun _ => ?_⟩
      show vp_updL ov 0 u.1.toInt64 0 = r'.toInt64
      rw [vpu_at, h1.2, h2.1, q2]
    · obtain ⟨np', S', P'⟩ := u'
      obtain ⟨g1, g2, g3, g4⟩ := h2
      have g2' : np' = nI (if kq = 3 then 3 else kq + 1) := g2
      have g4' : P' = md_save kq S P := g4
      have g3' : S' = _ := g3
      subst g2'; subst g4'; subst g3'
      exact fin_save kk hp (Int.le_refl T) (by omega) q1 (Nat.le_succ k) (Nat.le_add_right n 6)

set_option maxHeartbeats 4000000 in
set_option maxRecDepth 100000 in
theorem law_s2 {G : sw_E} {C : sw_C} {k n : Nat} {l : Launch} {b L : Nat} {xs : Nat → Int32} (F : sw_H G C cL_law RL wsL_law) (hF : LF G C l b L xs) (hst : l.stackTraces = false) {h m o : Nat} {i : Int32} {a1 : Int32} (hi1 : vp_in (i + 1) L) (e1 : xs (i + 1).toNatClampNeg = a1) {b0 b1 : Nat} {na ba ca fa : Nat → Nat} {kq : Nat} {th : Int32} {hh : Int64} {x y1 y2 y3 : XS} {S P ov : Nat → Int64} {T : Int} (hT : T < 1900000000) (hp : PX T kq x y1 y2 y3 S P) (hk : k + 1 ≤ room_1.cells) (hn : n + 6 ≤ room_1.slots) (kk : KK G C k n T h m o b0 b1 b i) :
    SW G C k n (WL G h m o b0 b1 na ba ca fa kq th hh x y1 y2 y3 S P ov) [(4, .int i), (3, .ref o), (2, .ref m), (1, .ref h), (0, .ref b)] 308 [] := by
  have hR := hp.2.1
  have hkq : kq < 4 := Nat.lt_succ_of_le hp.1
  by_cases hv : a1.toInt64 < 0 ∨ ¬ a1.toInt64 ≤ 1
  · skip
    refine law_c2 (wA := lw_fc h na ba ca fa (nI kq) :: (stw G na x ++ stw G fa y3)) (wR := stw G ba y1 ++ stw G ca y2) (mc := 1) (ms := 6) F hF hi1 e1 (po := fun r (_ : Unit) => r = 1) (ovf := fun _ => ov) (wAf := fun _ => lw_fc h na ba ca fa (nI kq) :: (stw G na x ++ stw G fa y3)) (pr := fun r (_ : Unit) => r = 0) (npf := fun _ => nI kq) (thf := fun _ => 1) (hhf := fun _ => hh) (Sf := fun _ => S) (Pf := fun _ => P)
      (kt_L_setMode_1 l G h a1 o ov _ (stw G na x ++ stw G fa y3) _ [] rfl (by decide) (kt_X9_setMode_f1 l G h a1 hst hv) rfl rfl (by decide) (by decide))
      (k_X10_setMode_f1 l G m b0 b1 (nI kq) th hh S P a1 (in_iff.mpr hv)) ⟨rfl, rfl, by decide, by decide⟩ hk hn (fun r u r' u' h1 h2 => ⟨h1.symm, fun z => absurd (h1.symm.trans z) (by decide)⟩) (fun r u r' u' h1 h2 => fin_same kk hp (Nat.le_refl _) (Nat.le_refl _))
  obtain ⟨v0, v1⟩ := pz_inV hv
  have hc : 0 ≤ (S 253).toInt ∧ (S 253).toInt ≤ 30 := (rx_mI hR).1
  obtain ⟨q1, q2⟩ := rs_setMode hR a1 v0 v1
  refine law_c2 (wA := lw_fc h na ba ca fa (nI kq) :: (stw G na x ++ stw G fa y3)) (wR := stw G ba y1 ++ stw G ca y2) (mc := 0) (ms := 0) F hF hi1 e1 (po := fun r (u : Int32 × Unit) => r = 0 ∧ u.1 = fa_X9_setMode_r x) (ovf := fun u => vp_updL ov 0 u.1.toInt64) (wAf := fun _ => [(h, .inr (9, [.ref (na 0), .ref (fa 0), .ref (ba 0), .ref (ca 0), .int (f_save_sv (nI kq))]))] ++ stw G na (sa_X9_setMode x a1) ++ stw G fa (st_copy x y3)) (S2 := Int32 × (Nat → Int64) × (Nat → Int64)) (npf := fun u => u.1) (thf := fun _ => 0) (hhf := fun _ => hh) (Sf := fun u => u.2.1) (Pf := fun u => u.2.2)
    (k_L_setMode l G h a1 o ov _ (stw G na x ++ stw G fa y3) (k_X9_setMode l G h na (ba 0) (ca 0) fa (nI kq) x y3 a1 (rx_xbool hR) v0 v1) rfl rfl (by decide) (by decide))
    (k_X10_setMode l G m b0 b1 (nI kq) th hh S P kq a1 rfl hkq v0 v1 hc) ⟨rfl, rfl, by decide, by decide⟩ (Nat.le_trans (Nat.le_succ k) hk) (Nat.le_trans (Nat.le_add_right n 6) hn) (fun r u r' u' h1 h2 => ?_) (fun r u r' u' h1 h2 => ?_)
  · refine ⟨h1.1.symm, fun _ => ?_⟩
    show vp_updL ov 0 u.1.toInt64 0 = r'.toInt64
    rw [vpu_at, h1.2, h2.1, q2]
  · obtain ⟨np', S', P'⟩ := u'
    obtain ⟨g1, g2, g3, g4⟩ := h2
    have g2' : np' = nI (if kq = 3 then 3 else kq + 1) := g2
    have g4' : P' = md_save kq S P := g4
    have g3' : S' = _ := g3
    subst g2'; subst g4'; subst g3'
    exact fin_save kk hp (Int.le_refl T) (by omega) q1 (Nat.le_succ k) (Nat.le_add_right n 6)

set_option maxHeartbeats 4000000 in
set_option maxRecDepth 100000 in
theorem law_s3 {G : sw_E} {C : sw_C} {k n : Nat} {l : Launch} {b L : Nat} {xs : Nat → Int32} (F : sw_H G C cL_law RL wsL_law) (hF : LF G C l b L xs) (hst : l.stackTraces = false) {h m o : Nat} {i : Int32} {a1 a2 : Int32} (hi1 : vp_in (i + 1) L) (e1 : xs (i + 1).toNatClampNeg = a1) (hi2 : vp_in (i + 2) L) (e2 : xs (i + 2).toNatClampNeg = a2) {b0 b1 : Nat} {na ba ca fa : Nat → Nat} {kq : Nat} {th : Int32} {hh : Int64} {x y1 y2 y3 : XS} {S P ov : Nat → Int64} {T : Int} (hT : T < 1900000000) (hp : PX T kq x y1 y2 y3 S P) (hk : k + 1 ≤ room_1.cells) (hn : n + 6 ≤ room_1.slots) (kk : KK G C k n T h m o b0 b1 b i) :
    SW G C k n (WL G h m o b0 b1 na ba ca fa kq th hh x y1 y2 y3 S P ov) [(4, .int i), (3, .ref o), (2, .ref m), (1, .ref h), (0, .ref b)] 364 [] := by
  have hR := hp.2.1
  have hkq : kq < 4 := Nat.lt_succ_of_le hp.1
  by_cases ht : a1 < 0 ∨ ¬ a1 < 6
  · skip
    refine law_c3 (wA := lw_fc h na ba ca fa (nI kq) :: (stw G na x ++ stw G fa y3)) (wR := stw G ba y1 ++ stw G ca y2) (mc := 1) (ms := 6) F hF hi1 e1 hi2 e2 (po := fun r (_ : Unit) => r = 1) (ovf := fun _ => ov) (wAf := fun _ => lw_fc h na ba ca fa (nI kq) :: (stw G na x ++ stw G fa y3)) (pr := fun r (_ : Unit) => r = 0) (npf := fun _ => nI kq) (thf := fun _ => 1) (hhf := fun _ => hh) (Sf := fun _ => S) (Pf := fun _ => P)
      (kt_L_setDensity_1 l G h a1 a2 o ov _ (stw G na x ++ stw G fa y3) _ [] rfl (by decide) (kt_X9_setDensity_f1 l G h a1 a2 hst ht) rfl rfl (by decide) (by decide))
      (k_X10_setDensity_f1 l G m b0 b1 (nI kq) th hh S P a1 a2 ((pz_ix pz_lt6).mpr ht)) ⟨rfl, rfl, by decide, by decide⟩ hk hn (fun r u r' u' h1 h2 => ⟨h1.symm, fun z => absurd (h1.symm.trans z) (by decide)⟩) (fun r u r' u' h1 h2 => fin_same kk hp (Nat.le_refl _) (Nat.le_refl _))
  by_cases hv : a2.toInt64 < 1 ∨ ¬ a2.toInt64 ≤ 20000
  · skip
    refine law_c3 (wA := lw_fc h na ba ca fa (nI kq) :: (stw G na x ++ stw G fa y3)) (wR := stw G ba y1 ++ stw G ca y2) (mc := 1) (ms := 6) F hF hi1 e1 hi2 e2 (po := fun r (_ : Unit) => r = 2) (ovf := fun _ => ov) (wAf := fun _ => lw_fc h na ba ca fa (nI kq) :: (stw G na x ++ stw G fa y3)) (pr := fun r (_ : Unit) => r = 0) (npf := fun _ => nI kq) (thf := fun _ => 2) (hhf := fun _ => hh) (Sf := fun _ => S) (Pf := fun _ => P)
      (kt_L_setDensity_2 l G h a1 a2 o ov _ (stw G na x ++ stw G fa y3) _ [] rfl (by decide) (kt_X9_setDensity_f2 l G h a1 a2 hst (pz_inN ht).1 (pz_inN ht).2 hv) rfl rfl (by decide) (by decide))
      (k_X10_setDensity_f2 l G m b0 b1 (nI kq) th hh S P a1 a2 (fun z => ht ((pz_ix pz_lt6).mp z)) (in_iff.mpr hv)) ⟨rfl, rfl, by decide, by decide⟩ hk hn (fun r u r' u' h1 h2 => ⟨h1.symm, fun z => absurd (h1.symm.trans z) (by decide)⟩) (fun r u r' u' h1 h2 => fin_same kk hp (Nat.le_refl _) (Nat.le_refl _))
  obtain ⟨v0, v1⟩ := pz_inV hv
  have hc : 0 ≤ (S 253).toInt ∧ (S 253).toInt ≤ 30 := (rx_mI hR).1
  rcases pz_six ht with e | e | e | e | e | e
  · subst e
    obtain ⟨q1, q2⟩ := rs_setDensity_0 hR a2 v0 v1
    refine law_c3 (wA := lw_fc h na ba ca fa (nI kq) :: (stw G na x ++ stw G fa y3)) (wR := stw G ba y1 ++ stw G ca y2) (mc := 0) (ms := 0) F hF hi1 e1 hi2 e2 (po := fun r (u : Int32 × Unit) => r = 0 ∧ u.1 = fa_X9_setDensity_0_r x) (ovf := fun u => vp_updL ov 0 u.1.toInt64) (wAf := fun _ => [(h, .inr (9, [.ref (na 0), .ref (fa 0), .ref (ba 0), .ref (ca 0), .int (f_save_sv (nI kq))]))] ++ stw G na (sa_X9_setDensity_0 x a2) ++ stw G fa (st_copy x y3)) (S2 := Int32 × (Nat → Int64) × (Nat → Int64)) (npf := fun u => u.1) (thf := fun _ => 0) (hhf := fun _ => hh) (Sf := fun u => u.2.1) (Pf := fun u => u.2.2)
      (k_L_setDensity l G h 0 a2 o ov _ (stw G na x ++ stw G fa y3) (k_X9_setDensity_0 l G h na (ba 0) (ca 0) fa (nI kq) x y3 a2 (rx_xbool hR) v0 v1) rfl rfl (by decide) (by decide))
      (k_X10_setDensity l G m b0 b1 (nI kq) th hh S P kq 0 0 a2 rfl hkq rfl (by decide) (by decide) (by decide) v0 v1 hc) ⟨rfl, rfl, by decide, by decide⟩ (Nat.le_trans (Nat.le_succ k) hk) (Nat.le_trans (Nat.le_add_right n 6) hn) (fun r u r' u' h1 h2 => ?_) (fun r u r' u' h1 h2 => ?_)
    · refine ⟨h1.1.symm, fun _ => ?_⟩
      show vp_updL ov 0 u.1.toInt64 0 = r'.toInt64
      rw [vpu_at, h1.2, h2.1, q2]
    · obtain ⟨np', S', P'⟩ := u'
      obtain ⟨g1, g2, g3, g4⟩ := h2
      have g2' : np' = nI (if kq = 3 then 3 else kq + 1) := g2
      have g4' : P' = md_save kq S P := g4
      have g3' : S' = _ := g3
      subst g2'; subst g4'; subst g3'
      exact fin_save kk hp (Int.le_refl T) (by omega) q1 (Nat.le_succ k) (Nat.le_add_right n 6)
  · subst e
    obtain ⟨q1, q2⟩ := rs_setDensity_1 hR a2 v0 v1
    refine law_c3 (wA := lw_fc h na ba ca fa (nI kq) :: (stw G na x ++ stw G fa y3)) (wR := stw G ba y1 ++ stw G ca y2) (mc := 0) (ms := 0) F hF hi1 e1 hi2 e2 (po := fun r (u : Int32 × Unit) => r = 0 ∧ u.1 = fa_X9_setDensity_1_r x) (ovf := fun u => vp_updL ov 0 u.1.toInt64) (wAf := fun _ => [(h, .inr (9, [.ref (na 0), .ref (fa 0), .ref (ba 0), .ref (ca 0), .int (f_save_sv (nI kq))]))] ++ stw G na (sa_X9_setDensity_1 x a2) ++ stw G fa (st_copy x y3)) (S2 := Int32 × (Nat → Int64) × (Nat → Int64)) (npf := fun u => u.1) (thf := fun _ => 0) (hhf := fun _ => hh) (Sf := fun u => u.2.1) (Pf := fun u => u.2.2)
      (k_L_setDensity l G h 1 a2 o ov _ (stw G na x ++ stw G fa y3) (k_X9_setDensity_1 l G h na (ba 0) (ca 0) fa (nI kq) x y3 a2 (rx_xbool hR) v0 v1) rfl rfl (by decide) (by decide))
      (k_X10_setDensity l G m b0 b1 (nI kq) th hh S P kq 1 1 a2 rfl hkq rfl (by decide) (by decide) (by decide) v0 v1 hc) ⟨rfl, rfl, by decide, by decide⟩ (Nat.le_trans (Nat.le_succ k) hk) (Nat.le_trans (Nat.le_add_right n 6) hn) (fun r u r' u' h1 h2 => ?_) (fun r u r' u' h1 h2 => ?_)
    · refine ⟨h1.1.symm, fun _ => ?_⟩
      show vp_updL ov 0 u.1.toInt64 0 = r'.toInt64
      rw [vpu_at, h1.2, h2.1, q2]
    · obtain ⟨np', S', P'⟩ := u'
      obtain ⟨g1, g2, g3, g4⟩ := h2
      have g2' : np' = nI (if kq = 3 then 3 else kq + 1) := g2
      have g4' : P' = md_save kq S P := g4
      have g3' : S' = _ := g3
      subst g2'; subst g4'; subst g3'
      exact fin_save kk hp (Int.le_refl T) (by omega) q1 (Nat.le_succ k) (Nat.le_add_right n 6)
  · subst e
    obtain ⟨q1, q2⟩ := rs_setDensity_2 hR a2 v0 v1
    refine law_c3 (wA := lw_fc h na ba ca fa (nI kq) :: (stw G na x ++ stw G fa y3)) (wR := stw G ba y1 ++ stw G ca y2) (mc := 0) (ms := 0) F hF hi1 e1 hi2 e2 (po := fun r (u : Int32 × Unit) => r = 0 ∧ u.1 = fa_X9_setDensity_2_r x) (ovf := fun u => vp_updL ov 0 u.1.toInt64) (wAf := fun _ => [(h, .inr (9, [.ref (na 0), .ref (fa 0), .ref (ba 0), .ref (ca 0), .int (f_save_sv (nI kq))]))] ++ stw G na (sa_X9_setDensity_2 x a2) ++ stw G fa (st_copy x y3)) (S2 := Int32 × (Nat → Int64) × (Nat → Int64)) (npf := fun u => u.1) (thf := fun _ => 0) (hhf := fun _ => hh) (Sf := fun u => u.2.1) (Pf := fun u => u.2.2)
      (k_L_setDensity l G h 2 a2 o ov _ (stw G na x ++ stw G fa y3) (k_X9_setDensity_2 l G h na (ba 0) (ca 0) fa (nI kq) x y3 a2 (rx_xbool hR) v0 v1) rfl rfl (by decide) (by decide))
      (k_X10_setDensity l G m b0 b1 (nI kq) th hh S P kq 2 2 a2 rfl hkq rfl (by decide) (by decide) (by decide) v0 v1 hc) ⟨rfl, rfl, by decide, by decide⟩ (Nat.le_trans (Nat.le_succ k) hk) (Nat.le_trans (Nat.le_add_right n 6) hn) (fun r u r' u' h1 h2 => ?_) (fun r u r' u' h1 h2 => ?_)
    · refine ⟨h1.1.symm, fun _ => ?_⟩
      show vp_updL ov 0 u.1.toInt64 0 = r'.toInt64
      rw [vpu_at, h1.2, h2.1, q2]
    · obtain ⟨np', S', P'⟩ := u'
      obtain ⟨g1, g2, g3, g4⟩ := h2
      have g2' : np' = nI (if kq = 3 then 3 else kq + 1) := g2
      have g4' : P' = md_save kq S P := g4
      have g3' : S' = _ := g3
      subst g2'; subst g4'; subst g3'
      exact fin_save kk hp (Int.le_refl T) (by omega) q1 (Nat.le_succ k) (Nat.le_add_right n 6)
  · subst e
    obtain ⟨q1, q2⟩ := rs_setDensity_3 hR a2 v0 v1
    refine law_c3 (wA := lw_fc h na ba ca fa (nI kq) :: (stw G na x ++ stw G fa y3)) (wR := stw G ba y1 ++ stw G ca y2) (mc := 0) (ms := 0) F hF hi1 e1 hi2 e2 (po := fun r (u : Int32 × Unit) => r = 0 ∧ u.1 = fa_X9_setDensity_3_r x) (ovf := fun u => vp_updL ov 0 u.1.toInt64) (wAf := fun _ => [(h, .inr (9, [.ref (na 0), .ref (fa 0), .ref (ba 0), .ref (ca 0), .int (f_save_sv (nI kq))]))] ++ stw G na (sa_X9_setDensity_3 x a2) ++ stw G fa (st_copy x y3)) (S2 := Int32 × (Nat → Int64) × (Nat → Int64)) (npf := fun u => u.1) (thf := fun _ => 0) (hhf := fun _ => hh) (Sf := fun u => u.2.1) (Pf := fun u => u.2.2)
      (k_L_setDensity l G h 3 a2 o ov _ (stw G na x ++ stw G fa y3) (k_X9_setDensity_3 l G h na (ba 0) (ca 0) fa (nI kq) x y3 a2 (rx_xbool hR) v0 v1) rfl rfl (by decide) (by decide))
      (k_X10_setDensity l G m b0 b1 (nI kq) th hh S P kq 3 3 a2 rfl hkq rfl (by decide) (by decide) (by decide) v0 v1 hc) ⟨rfl, rfl, by decide, by decide⟩ (Nat.le_trans (Nat.le_succ k) hk) (Nat.le_trans (Nat.le_add_right n 6) hn) (fun r u r' u' h1 h2 => ?_) (fun r u r' u' h1 h2 => ?_)
    · refine ⟨h1.1.symm, fun _ => ?_⟩
      show vp_updL ov 0 u.1.toInt64 0 = r'.toInt64
      rw [vpu_at, h1.2, h2.1, q2]
    · obtain ⟨np', S', P'⟩ := u'
      obtain ⟨g1, g2, g3, g4⟩ := h2
      have g2' : np' = nI (if kq = 3 then 3 else kq + 1) := g2
      have g4' : P' = md_save kq S P := g4
      have g3' : S' = _ := g3
      subst g2'; subst g4'; subst g3'
      exact fin_save kk hp (Int.le_refl T) (by omega) q1 (Nat.le_succ k) (Nat.le_add_right n 6)
  · subst e
    obtain ⟨q1, q2⟩ := rs_setDensity_4 hR a2 v0 v1
    refine law_c3 (wA := lw_fc h na ba ca fa (nI kq) :: (stw G na x ++ stw G fa y3)) (wR := stw G ba y1 ++ stw G ca y2) (mc := 0) (ms := 0) F hF hi1 e1 hi2 e2 (po := fun r (u : Int32 × Unit) => r = 0 ∧ u.1 = fa_X9_setDensity_4_r x) (ovf := fun u => vp_updL ov 0 u.1.toInt64) (wAf := fun _ => [(h, .inr (9, [.ref (na 0), .ref (fa 0), .ref (ba 0), .ref (ca 0), .int (f_save_sv (nI kq))]))] ++ stw G na (sa_X9_setDensity_4 x a2) ++ stw G fa (st_copy x y3)) (S2 := Int32 × (Nat → Int64) × (Nat → Int64)) (npf := fun u => u.1) (thf := fun _ => 0) (hhf := fun _ => hh) (Sf := fun u => u.2.1) (Pf := fun u => u.2.2)
      (k_L_setDensity l G h 4 a2 o ov _ (stw G na x ++ stw G fa y3) (k_X9_setDensity_4 l G h na (ba 0) (ca 0) fa (nI kq) x y3 a2 (rx_xbool hR) v0 v1) rfl rfl (by decide) (by decide))
      (k_X10_setDensity l G m b0 b1 (nI kq) th hh S P kq 4 4 a2 rfl hkq rfl (by decide) (by decide) (by decide) v0 v1 hc) ⟨rfl, rfl, by decide, by decide⟩ (Nat.le_trans (Nat.le_succ k) hk) (Nat.le_trans (Nat.le_add_right n 6) hn) (fun r u r' u' h1 h2 => ?_) (fun r u r' u' h1 h2 => ?_)
    · refine ⟨h1.1.symm, fun _ => ?_⟩
      show vp_updL ov 0 u.1.toInt64 0 = r'.toInt64
      rw [vpu_at, h1.2, h2.1, q2]
    · obtain ⟨np', S', P'⟩ := u'
      obtain ⟨g1, g2, g3, g4⟩ := h2
      have g2' : np' = nI (if kq = 3 then 3 else kq + 1) := g2
      have g4' : P' = md_save kq S P := g4
      have g3' : S' = _ := g3
      subst g2'; subst g4'; subst g3'
      exact fin_save kk hp (Int.le_refl T) (by omega) q1 (Nat.le_succ k) (Nat.le_add_right n 6)
  · subst e
    obtain ⟨q1, q2⟩ := rs_setDensity_5 hR a2 v0 v1
    refine law_c3 (wA := lw_fc h na ba ca fa (nI kq) :: (stw G na x ++ stw G fa y3)) (wR := stw G ba y1 ++ stw G ca y2) (mc := 0) (ms := 0) F hF hi1 e1 hi2 e2 (po := fun r (u : Int32 × Unit) => r = 0 ∧ u.1 = fa_X9_setDensity_5_r x) (ovf := fun u => vp_updL ov 0 u.1.toInt64) (wAf := fun _ => [(h, .inr (9, [.ref (na 0), .ref (fa 0), .ref (ba 0), .ref (ca 0), .int (f_save_sv (nI kq))]))] ++ stw G na (sa_X9_setDensity_5 x a2) ++ stw G fa (st_copy x y3)) (S2 := Int32 × (Nat → Int64) × (Nat → Int64)) (npf := fun u => u.1) (thf := fun _ => 0) (hhf := fun _ => hh) (Sf := fun u => u.2.1) (Pf := fun u => u.2.2)
      (k_L_setDensity l G h 5 a2 o ov _ (stw G na x ++ stw G fa y3) (k_X9_setDensity_5 l G h na (ba 0) (ca 0) fa (nI kq) x y3 a2 (rx_xbool hR) v0 v1) rfl rfl (by decide) (by decide))
      (k_X10_setDensity l G m b0 b1 (nI kq) th hh S P kq 5 5 a2 rfl hkq rfl (by decide) (by decide) (by decide) v0 v1 hc) ⟨rfl, rfl, by decide, by decide⟩ (Nat.le_trans (Nat.le_succ k) hk) (Nat.le_trans (Nat.le_add_right n 6) hn) (fun r u r' u' h1 h2 => ?_) (fun r u r' u' h1 h2 => ?_)
    · refine ⟨h1.1.symm, fun _ => ?_⟩
      show vp_updL ov 0 u.1.toInt64 0 = r'.toInt64
      rw [vpu_at, h1.2, h2.1, q2]
    · obtain ⟨np', S', P'⟩ := u'
      obtain ⟨g1, g2, g3, g4⟩ := h2
      have g2' : np' = nI (if kq = 3 then 3 else kq + 1) := g2
      have g4' : P' = md_save kq S P := g4
      have g3' : S' = _ := g3
      subst g2'; subst g4'; subst g3'
      exact fin_save kk hp (Int.le_refl T) (by omega) q1 (Nat.le_succ k) (Nat.le_add_right n 6)

set_option maxHeartbeats 4000000 in
set_option maxRecDepth 100000 in
theorem law_s4 {G : sw_E} {C : sw_C} {k n : Nat} {l : Launch} {b L : Nat} {xs : Nat → Int32} (F : sw_H G C cL_law RL wsL_law) (hF : LF G C l b L xs) (hst : l.stackTraces = false) {h m o : Nat} {i : Int32} {a1 a2 : Int32} (hi1 : vp_in (i + 1) L) (e1 : xs (i + 1).toNatClampNeg = a1) (hi2 : vp_in (i + 2) L) (e2 : xs (i + 2).toNatClampNeg = a2) {b0 b1 : Nat} {na ba ca fa : Nat → Nat} {kq : Nat} {th : Int32} {hh : Int64} {x y1 y2 y3 : XS} {S P ov : Nat → Int64} {T : Int} (hT : T < 1900000000) (hp : PX T kq x y1 y2 y3 S P) (hk : k + 1 ≤ room_1.cells) (hn : n + 6 ≤ room_1.slots) (kk : KK G C k n T h m o b0 b1 b i) :
    SW G C k n (WL G h m o b0 b1 na ba ca fa kq th hh x y1 y2 y3 S P ov) [(4, .int i), (3, .ref o), (2, .ref m), (1, .ref h), (0, .ref b)] 432 [] := by
  have hR := hp.2.1
  have hkq : kq < 4 := Nat.lt_succ_of_le hp.1
  by_cases ht : a1 < 0 ∨ ¬ a1 < 5
  · skip
    refine law_c4 (wA := lw_fc h na ba ca fa (nI kq) :: (stw G na x ++ stw G fa y3)) (wR := stw G ba y1 ++ stw G ca y2) (mc := 1) (ms := 6) F hF hi1 e1 hi2 e2 (po := fun r (_ : Unit) => r = 1) (ovf := fun _ => ov) (wAf := fun _ => lw_fc h na ba ca fa (nI kq) :: (stw G na x ++ stw G fa y3)) (pr := fun r (_ : Unit) => r = 0) (npf := fun _ => nI kq) (thf := fun _ => 1) (hhf := fun _ => hh) (Sf := fun _ => S) (Pf := fun _ => P)
      (kt_L_setFactor_1 l G h a1 a2 o ov _ (stw G na x ++ stw G fa y3) _ [] rfl (by decide) (kt_X9_setFactor_f1 l G h a1 a2 hst ht) rfl rfl (by decide) (by decide))
      (k_X10_setFactor_f1 l G m b0 b1 (nI kq) th hh S P a1 a2 ((pz_ix pz_lt5).mpr ht)) ⟨rfl, rfl, by decide, by decide⟩ hk hn (fun r u r' u' h1 h2 => ⟨h1.symm, fun z => absurd (h1.symm.trans z) (by decide)⟩) (fun r u r' u' h1 h2 => fin_same kk hp (Nat.le_refl _) (Nat.le_refl _))
  by_cases hv : a2.toInt64 < 9000 ∨ ¬ a2.toInt64 ≤ 11000
  · skip
    refine law_c4 (wA := lw_fc h na ba ca fa (nI kq) :: (stw G na x ++ stw G fa y3)) (wR := stw G ba y1 ++ stw G ca y2) (mc := 1) (ms := 6) F hF hi1 e1 hi2 e2 (po := fun r (_ : Unit) => r = 2) (ovf := fun _ => ov) (wAf := fun _ => lw_fc h na ba ca fa (nI kq) :: (stw G na x ++ stw G fa y3)) (pr := fun r (_ : Unit) => r = 0) (npf := fun _ => nI kq) (thf := fun _ => 2) (hhf := fun _ => hh) (Sf := fun _ => S) (Pf := fun _ => P)
      (kt_L_setFactor_2 l G h a1 a2 o ov _ (stw G na x ++ stw G fa y3) _ [] rfl (by decide) (kt_X9_setFactor_f2 l G h a1 a2 hst (pz_inN ht).1 (pz_inN ht).2 hv) rfl rfl (by decide) (by decide))
      (k_X10_setFactor_f2 l G m b0 b1 (nI kq) th hh S P a1 a2 (fun z => ht ((pz_ix pz_lt5).mp z)) (in_iff.mpr hv)) ⟨rfl, rfl, by decide, by decide⟩ hk hn (fun r u r' u' h1 h2 => ⟨h1.symm, fun z => absurd (h1.symm.trans z) (by decide)⟩) (fun r u r' u' h1 h2 => fin_same kk hp (Nat.le_refl _) (Nat.le_refl _))
  obtain ⟨v0, v1⟩ := pz_inV hv
  have hc : 0 ≤ (S 253).toInt ∧ (S 253).toInt ≤ 30 := (rx_mI hR).1
  rcases pz_five ht with e | e | e | e | e
  · subst e
    obtain ⟨q1, q2⟩ := rs_setFactor_0 hR a2 v0 v1
    refine law_c4 (wA := lw_fc h na ba ca fa (nI kq) :: (stw G na x ++ stw G fa y3)) (wR := stw G ba y1 ++ stw G ca y2) (mc := 0) (ms := 0) F hF hi1 e1 hi2 e2 (po := fun r (u : Int32 × Unit) => r = 0 ∧ u.1 = fa_X9_setFactor_0_r x) (ovf := fun u => vp_updL ov 0 u.1.toInt64) (wAf := fun _ => [(h, .inr (9, [.ref (na 0), .ref (fa 0), .ref (ba 0), .ref (ca 0), .int (f_save_sv (nI kq))]))] ++ stw G na (sa_X9_setFactor_0 x a2) ++ stw G fa (st_copy x y3)) (S2 := Int32 × (Nat → Int64) × (Nat → Int64)) (npf := fun u => u.1) (thf := fun _ => 0) (hhf := fun _ => hh) (Sf := fun u => u.2.1) (Pf := fun u => u.2.2)
      (k_L_setFactor l G h 0 a2 o ov _ (stw G na x ++ stw G fa y3) (k_X9_setFactor_0 l G h na (ba 0) (ca 0) fa (nI kq) x y3 a2 (rx_xbool hR) v0 v1) rfl rfl (by decide) (by decide))
      (k_X10_setFactor l G m b0 b1 (nI kq) th hh S P kq 0 0 a2 rfl hkq rfl (by decide) (by decide) (by decide) v0 v1 hc) ⟨rfl, rfl, by decide, by decide⟩ (Nat.le_trans (Nat.le_succ k) hk) (Nat.le_trans (Nat.le_add_right n 6) hn) (fun r u r' u' h1 h2 => ?_) (fun r u r' u' h1 h2 => ?_)
    · refine ⟨h1.1.symm, fun _ => ?_⟩
      show vp_updL ov 0 u.1.toInt64 0 = r'.toInt64
      rw [vpu_at, h1.2, h2.1, q2]
    · obtain ⟨np', S', P'⟩ := u'
      obtain ⟨g1, g2, g3, g4⟩ := h2
      have g2' : np' = nI (if kq = 3 then 3 else kq + 1) := g2
      have g4' : P' = md_save kq S P := g4
      have g3' : S' = _ := g3
      subst g2'; subst g4'; subst g3'
      exact fin_save kk hp (Int.le_refl T) (by omega) q1 (Nat.le_succ k) (Nat.le_add_right n 6)
  · subst e
    obtain ⟨q1, q2⟩ := rs_setFactor_1 hR a2 v0 v1
    refine law_c4 (wA := lw_fc h na ba ca fa (nI kq) :: (stw G na x ++ stw G fa y3)) (wR := stw G ba y1 ++ stw G ca y2) (mc := 0) (ms := 0) F hF hi1 e1 hi2 e2 (po := fun r (u : Int32 × Unit) => r = 0 ∧ u.1 = fa_X9_setFactor_1_r x) (ovf := fun u => vp_updL ov 0 u.1.toInt64) (wAf := fun _ => [(h, .inr (9, [.ref (na 0), .ref (fa 0), .ref (ba 0), .ref (ca 0), .int (f_save_sv (nI kq))]))] ++ stw G na (sa_X9_setFactor_1 x a2) ++ stw G fa (st_copy x y3)) (S2 := Int32 × (Nat → Int64) × (Nat → Int64)) (npf := fun u => u.1) (thf := fun _ => 0) (hhf := fun _ => hh) (Sf := fun u => u.2.1) (Pf := fun u => u.2.2)
      (k_L_setFactor l G h 1 a2 o ov _ (stw G na x ++ stw G fa y3) (k_X9_setFactor_1 l G h na (ba 0) (ca 0) fa (nI kq) x y3 a2 (rx_xbool hR) v0 v1) rfl rfl (by decide) (by decide))
      (k_X10_setFactor l G m b0 b1 (nI kq) th hh S P kq 1 1 a2 rfl hkq rfl (by decide) (by decide) (by decide) v0 v1 hc) ⟨rfl, rfl, by decide, by decide⟩ (Nat.le_trans (Nat.le_succ k) hk) (Nat.le_trans (Nat.le_add_right n 6) hn) (fun r u r' u' h1 h2 => ?_) (fun r u r' u' h1 h2 => ?_)
    · refine ⟨h1.1.symm, fun _ => ?_⟩
      show vp_updL ov 0 u.1.toInt64 0 = r'.toInt64
      rw [vpu_at, h1.2, h2.1, q2]
    · obtain ⟨np', S', P'⟩ := u'
      obtain ⟨g1, g2, g3, g4⟩ := h2
      have g2' : np' = nI (if kq = 3 then 3 else kq + 1) := g2
      have g4' : P' = md_save kq S P := g4
      have g3' : S' = _ := g3
      subst g2'; subst g4'; subst g3'
      exact fin_save kk hp (Int.le_refl T) (by omega) q1 (Nat.le_succ k) (Nat.le_add_right n 6)
  · subst e
    obtain ⟨q1, q2⟩ := rs_setFactor_2 hR a2 v0 v1
    refine law_c4 (wA := lw_fc h na ba ca fa (nI kq) :: (stw G na x ++ stw G fa y3)) (wR := stw G ba y1 ++ stw G ca y2) (mc := 0) (ms := 0) F hF hi1 e1 hi2 e2 (po := fun r (u : Int32 × Unit) => r = 0 ∧ u.1 = fa_X9_setFactor_2_r x) (ovf := fun u => vp_updL ov 0 u.1.toInt64) (wAf := fun _ => [(h, .inr (9, [.ref (na 0), .ref (fa 0), .ref (ba 0), .ref (ca 0), .int (f_save_sv (nI kq))]))] ++ stw G na (sa_X9_setFactor_2 x a2) ++ stw G fa (st_copy x y3)) (S2 := Int32 × (Nat → Int64) × (Nat → Int64)) (npf := fun u => u.1) (thf := fun _ => 0) (hhf := fun _ => hh) (Sf := fun u => u.2.1) (Pf := fun u => u.2.2)
      (k_L_setFactor l G h 2 a2 o ov _ (stw G na x ++ stw G fa y3) (k_X9_setFactor_2 l G h na (ba 0) (ca 0) fa (nI kq) x y3 a2 (rx_xbool hR) v0 v1) rfl rfl (by decide) (by decide))
      (k_X10_setFactor l G m b0 b1 (nI kq) th hh S P kq 2 2 a2 rfl hkq rfl (by decide) (by decide) (by decide) v0 v1 hc) ⟨rfl, rfl, by decide, by decide⟩ (Nat.le_trans (Nat.le_succ k) hk) (Nat.le_trans (Nat.le_add_right n 6) hn) (fun r u r' u' h1 h2 => ?_) (fun r u r' u' h1 h2 => ?_)
    · refine ⟨h1.1.symm, fun _ => ?_⟩
      show vp_updL ov 0 u.1.toInt64 0 = r'.toInt64
      rw [vpu_at, h1.2, h2.1, q2]
    · obtain ⟨np', S', P'⟩ := u'
      obtain ⟨g1, g2, g3, g4⟩ := h2
      have g2' : np' = nI (if kq = 3 then 3 else kq + 1) := g2
      have g4' : P' = md_save kq S P := g4
      have g3' : S' = _ := g3
      subst g2'; subst g4'; subst g3'
      exact fin_save kk hp (Int.le_refl T) (by omega) q1 (Nat.le_succ k) (Nat.le_add_right n 6)
  · subst e
    obtain ⟨q1, q2⟩ := rs_setFactor_3 hR a2 v0 v1
    refine law_c4 (wA := lw_fc h na ba ca fa (nI kq) :: (stw G na x ++ stw G fa y3)) (wR := stw G ba y1 ++ stw G ca y2) (mc := 0) (ms := 0) F hF hi1 e1 hi2 e2 (po := fun r (u : Int32 × Unit) => r = 0 ∧ u.1 = fa_X9_setFactor_3_r x) (ovf := fun u => vp_updL ov 0 u.1.toInt64) (wAf := fun _ => [(h, .inr (9, [.ref (na 0), .ref (fa 0), .ref (ba 0), .ref (ca 0), .int (f_save_sv (nI kq))]))] ++ stw G na (sa_X9_setFactor_3 x a2) ++ stw G fa (st_copy x y3)) (S2 := Int32 × (Nat → Int64) × (Nat → Int64)) (npf := fun u => u.1) (thf := fun _ => 0) (hhf := fun _ => hh) (Sf := fun u => u.2.1) (Pf := fun u => u.2.2)
      (k_L_setFactor l G h 3 a2 o ov _ (stw G na x ++ stw G fa y3) (k_X9_setFactor_3 l G h na (ba 0) (ca 0) fa (nI kq) x y3 a2 (rx_xbool hR) v0 v1) rfl rfl (by decide) (by decide))
      (k_X10_setFactor l G m b0 b1 (nI kq) th hh S P kq 3 3 a2 rfl hkq rfl (by decide) (by decide) (by decide) v0 v1 hc) ⟨rfl, rfl, by decide, by decide⟩ (Nat.le_trans (Nat.le_succ k) hk) (Nat.le_trans (Nat.le_add_right n 6) hn) (fun r u r' u' h1 h2 => ?_) (fun r u r' u' h1 h2 => ?_)
    · refine ⟨h1.1.symm, fun _ => ?_⟩
      show vp_updL ov 0 u.1.toInt64 0 = r'.toInt64
      rw [vpu_at, h1.2, h2.1, q2]
    · obtain ⟨np', S', P'⟩ := u'
      obtain ⟨g1, g2, g3, g4⟩ := h2
      have g2' : np' = nI (if kq = 3 then 3 else kq + 1) := g2
      have g4' : P' = md_save kq S P := g4
      have g3' : S' = _ := g3
      subst g2'; subst g4'; subst g3'
      exact fin_save kk hp (Int.le_refl T) (by omega) q1 (Nat.le_succ k) (Nat.le_add_right n 6)
  · subst e
    obtain ⟨q1, q2⟩ := rs_setFactor_4 hR a2 v0 v1
    refine law_c4 (wA := lw_fc h na ba ca fa (nI kq) :: (stw G na x ++ stw G fa y3)) (wR := stw G ba y1 ++ stw G ca y2) (mc := 0) (ms := 0) F hF hi1 e1 hi2 e2 (po := fun r (u : Int32 × Unit) => r = 0 ∧ u.1 = fa_X9_setFactor_4_r x) (ovf := fun u => vp_updL ov 0 u.1.toInt64) (wAf := fun _ => [(h, .inr (9, [.ref (na 0), .ref (fa 0), .ref (ba 0), .ref (ca 0), .int (f_save_sv (nI kq))]))] ++ stw G na (sa_X9_setFactor_4 x a2) ++ stw G fa (st_copy x y3)) (S2 := Int32 × (Nat → Int64) × (Nat → Int64)) (npf := fun u => u.1) (thf := fun _ => 0) (hhf := fun _ => hh) (Sf := fun u => u.2.1) (Pf := fun u => u.2.2)
      (k_L_setFactor l G h 4 a2 o ov _ (stw G na x ++ stw G fa y3) (k_X9_setFactor_4 l G h na (ba 0) (ca 0) fa (nI kq) x y3 a2 (rx_xbool hR) v0 v1) rfl rfl (by decide) (by decide))
      (k_X10_setFactor l G m b0 b1 (nI kq) th hh S P kq 4 4 a2 rfl hkq rfl (by decide) (by decide) (by decide) v0 v1 hc) ⟨rfl, rfl, by decide, by decide⟩ (Nat.le_trans (Nat.le_succ k) hk) (Nat.le_trans (Nat.le_add_right n 6) hn) (fun r u r' u' h1 h2 => ?_) (fun r u r' u' h1 h2 => ?_)
    · refine ⟨h1.1.symm, fun _ => ?_⟩
      show vp_updL ov 0 u.1.toInt64 0 = r'.toInt64
      rw [vpu_at, h1.2, h2.1, q2]
    · obtain ⟨np', S', P'⟩ := u'
      obtain ⟨g1, g2, g3, g4⟩ := h2
      have g2' : np' = nI (if kq = 3 then 3 else kq + 1) := g2
      have g4' : P' = md_save kq S P := g4
      have g3' : S' = _ := g3
      subst g2'; subst g4'; subst g3'
      exact fin_save kk hp (Int.le_refl T) (by omega) q1 (Nat.le_succ k) (Nat.le_add_right n 6)

set_option maxHeartbeats 4000000 in
set_option maxRecDepth 100000 in
theorem law_s5 {G : sw_E} {C : sw_C} {k n : Nat} {l : Launch} {b L : Nat} {xs : Nat → Int32} (F : sw_H G C cL_law RL wsL_law) (hF : LF G C l b L xs) (hst : l.stackTraces = false) {h m o : Nat} {i : Int32} {a1 : Int32} (hi1 : vp_in (i + 1) L) (e1 : xs (i + 1).toNatClampNeg = a1) {b0 b1 : Nat} {na ba ca fa : Nat → Nat} {kq : Nat} {th : Int32} {hh : Int64} {x y1 y2 y3 : XS} {S P ov : Nat → Int64} {T : Int} (hT : T < 1900000000) (hp : PX T kq x y1 y2 y3 S P) (hk : k + 1 ≤ room_1.cells) (hn : n + 6 ≤ room_1.slots) (kk : KK G C k n T h m o b0 b1 b i) :
    SW G C k n (WL G h m o b0 b1 na ba ca fa kq th hh x y1 y2 y3 S P ov) [(4, .int i), (3, .ref o), (2, .ref m), (1, .ref h), (0, .ref b)] 500 [] := by
  have hR := hp.2.1
  have hkq : kq < 4 := Nat.lt_succ_of_le hp.1
  by_cases hv : a1.toInt64 < 1 ∨ ¬ a1.toInt64 ≤ 100000
  · skip
    refine law_c5 (wA := lw_fc h na ba ca fa (nI kq) :: (stw G na x ++ stw G fa y3)) (wR := stw G ba y1 ++ stw G ca y2) (mc := 1) (ms := 6) F hF hi1 e1 (po := fun r (_ : Unit) => r = 1) (ovf := fun _ => ov) (wAf := fun _ => lw_fc h na ba ca fa (nI kq) :: (stw G na x ++ stw G fa y3)) (pr := fun r (_ : Unit) => r = 0) (npf := fun _ => nI kq) (thf := fun _ => 1) (hhf := fun _ => hh) (Sf := fun _ => S) (Pf := fun _ => P)
      (kt_L_setMeter_1 l G h a1 o ov _ (stw G na x ++ stw G fa y3) _ [] rfl (by decide) (kt_X9_setMeter_f1 l G h a1 hst hv) rfl rfl (by decide) (by decide))
      (k_X10_setMeter_f1 l G m b0 b1 (nI kq) th hh S P a1 (in_iff.mpr hv)) ⟨rfl, rfl, by decide, by decide⟩ hk hn (fun r u r' u' h1 h2 => ⟨h1.symm, fun z => absurd (h1.symm.trans z) (by decide)⟩) (fun r u r' u' h1 h2 => fin_same kk hp (Nat.le_refl _) (Nat.le_refl _))
  obtain ⟨v0, v1⟩ := pz_inV hv
  have hc : 0 ≤ (S 253).toInt ∧ (S 253).toInt ≤ 30 := (rx_mI hR).1
  obtain ⟨q1, q2⟩ := rs_setMeter hR a1 v0 v1
  refine law_c5 (wA := lw_fc h na ba ca fa (nI kq) :: (stw G na x ++ stw G fa y3)) (wR := stw G ba y1 ++ stw G ca y2) (mc := 0) (ms := 0) F hF hi1 e1 (po := fun r (u : Int32 × Unit) => r = 0 ∧ u.1 = fa_X9_setMeter_r x) (ovf := fun u => vp_updL ov 0 u.1.toInt64) (wAf := fun _ => [(h, .inr (9, [.ref (na 0), .ref (fa 0), .ref (ba 0), .ref (ca 0), .int (f_save_sv (nI kq))]))] ++ stw G na (sa_X9_setMeter x a1) ++ stw G fa (st_copy x y3)) (S2 := Int32 × (Nat → Int64) × (Nat → Int64)) (npf := fun u => u.1) (thf := fun _ => 0) (hhf := fun _ => hh) (Sf := fun u => u.2.1) (Pf := fun u => u.2.2)
    (k_L_setMeter l G h a1 o ov _ (stw G na x ++ stw G fa y3) (k_X9_setMeter l G h na (ba 0) (ca 0) fa (nI kq) x y3 a1 (rx_xbool hR) v0 v1) rfl rfl (by decide) (by decide))
    (k_X10_setMeter l G m b0 b1 (nI kq) th hh S P kq a1 rfl hkq v0 v1 hc) ⟨rfl, rfl, by decide, by decide⟩ (Nat.le_trans (Nat.le_succ k) hk) (Nat.le_trans (Nat.le_add_right n 6) hn) (fun r u r' u' h1 h2 => ?_) (fun r u r' u' h1 h2 => ?_)
  · refine ⟨h1.1.symm, fun _ => ?_⟩
    show vp_updL ov 0 u.1.toInt64 0 = r'.toInt64
    rw [vpu_at, h1.2, h2.1, q2]
  · obtain ⟨np', S', P'⟩ := u'
    obtain ⟨g1, g2, g3, g4⟩ := h2
    have g2' : np' = nI (if kq = 3 then 3 else kq + 1) := g2
    have g4' : P' = md_save kq S P := g4
    have g3' : S' = _ := g3
    subst g2'; subst g4'; subst g3'
    exact fin_save kk hp (Int.le_refl T) (by omega) q1 (Nat.le_succ k) (Nat.le_add_right n 6)

set_option maxHeartbeats 4000000 in
set_option maxRecDepth 100000 in
theorem law_s6 {G : sw_E} {C : sw_C} {k n : Nat} {l : Launch} {b L : Nat} {xs : Nat → Int32} (F : sw_H G C cL_law RL wsL_law) (hF : LF G C l b L xs) (hst : l.stackTraces = false) {h m o : Nat} {i : Int32} {a1 a2 : Int32} (hi1 : vp_in (i + 1) L) (e1 : xs (i + 1).toNatClampNeg = a1) (hi2 : vp_in (i + 2) L) (e2 : xs (i + 2).toNatClampNeg = a2) {b0 b1 : Nat} {na ba ca fa : Nat → Nat} {kq : Nat} {th : Int32} {hh : Int64} {x y1 y2 y3 : XS} {S P ov : Nat → Int64} {T : Int} (hT : T < 1900000000) (hp : PX T kq x y1 y2 y3 S P) (hk : k + 1 ≤ room_1.cells) (hn : n + 6 ≤ room_1.slots) (kk : KK G C k n T h m o b0 b1 b i) :
    SW G C k n (WL G h m o b0 b1 na ba ca fa kq th hh x y1 y2 y3 S P ov) [(4, .int i), (3, .ref o), (2, .ref m), (1, .ref h), (0, .ref b)] 556 [] := by
  have hR := hp.2.1
  have hkq : kq < 4 := Nat.lt_succ_of_le hp.1
  by_cases hq : a2.toInt64 < 0 ∨ ¬ a2.toInt64 ≤ 100000
  · skip
    by_cases hr : f_X10_in_r a1.toInt64 0 a2.toInt64 = 0
    · skip
      refine law_c6 (wA := lw_fc h na ba ca fa (nI kq) :: (stw G na x ++ stw G fa y3)) (wR := stw G ba y1 ++ stw G ca y2) (mc := 1) (ms := 6) F hF hi1 e1 hi2 e2 (po := fun r (_ : Unit) => r = 1) (ovf := fun _ => ov) (wAf := fun _ => lw_fc h na ba ca fa (nI kq) :: (stw G na x ++ stw G fa y3)) (pr := fun r (_ : Unit) => r = 0) (npf := fun _ => nI kq) (thf := fun _ => 1) (hhf := fun _ => hh) (Sf := fun _ => S) (Pf := fun _ => P)
        (kt_L_setCutoff_1 l G h a1 a2 o ov _ (stw G na x ++ stw G fa y3) _ [] rfl (by decide) (kt_X9_setCutoff_f1 l G h a1 a2 hst hq) rfl rfl (by decide) (by decide))
        (k_X10_setCutoff_f1 l G m b0 b1 (nI kq) th hh S P a1 a2 hr) ⟨rfl, rfl, by decide, by decide⟩ hk hn (fun r u r' u' h1 h2 => ⟨h1.symm, fun z => absurd (h1.symm.trans z) (by decide)⟩) (fun r u r' u' h1 h2 => fin_same kk hp (Nat.le_refl _) (Nat.le_refl _))
    · have hr2 : f_X10_in_r a2.toInt64 a1.toInt64 100000 = 0 := by
        rw [in_iff]
        refine hq.elim (fun z => ?_) Or.inr
        have w := fun z => hr (in_iff.mpr z)
        have w0 : ¬ a1.toInt64 < 0 := fun z => w (Or.inl z)
        have w1 : a1.toInt64 ≤ a2.toInt64 := Classical.byContradiction fun z => w (Or.inr z)
        exact absurd (Int64.lt_of_le_of_lt w1 z) w0
      refine law_c6 (wA := lw_fc h na ba ca fa (nI kq) :: (stw G na x ++ stw G fa y3)) (wR := stw G ba y1 ++ stw G ca y2) (mc := 1) (ms := 6) F hF hi1 e1 hi2 e2 (po := fun r (_ : Unit) => r = 1) (ovf := fun _ => ov) (wAf := fun _ => lw_fc h na ba ca fa (nI kq) :: (stw G na x ++ stw G fa y3)) (pr := fun r (_ : Unit) => r = 0) (npf := fun _ => nI kq) (thf := fun _ => 1) (hhf := fun _ => hh) (Sf := fun _ => S) (Pf := fun _ => P)
        (kt_L_setCutoff_1 l G h a1 a2 o ov _ (stw G na x ++ stw G fa y3) _ [] rfl (by decide) (kt_X9_setCutoff_f1 l G h a1 a2 hst hq) rfl rfl (by decide) (by decide))
        (k_X10_setCutoff_f1b l G m b0 b1 (nI kq) th hh S P a1 a2 hr hr2) ⟨rfl, rfl, by decide, by decide⟩ hk hn (fun r u r' u' h1 h2 => ⟨h1.symm, fun z => absurd (h1.symm.trans z) (by decide)⟩) (fun r u r' u' h1 h2 => fin_same kk hp (Nat.le_refl _) (Nat.le_refl _))
  obtain ⟨w0, w1⟩ := pz_inV hq
  by_cases hv : a1.toInt64 < 0 ∨ ¬ a1.toInt64 ≤ a2.toInt64
  · skip
    refine law_c6 (wA := lw_fc h na ba ca fa (nI kq) :: (stw G na x ++ stw G fa y3)) (wR := stw G ba y1 ++ stw G ca y2) (mc := 1) (ms := 6) F hF hi1 e1 hi2 e2 (po := fun r (_ : Unit) => r = 1) (ovf := fun _ => ov) (wAf := fun _ => lw_fc h na ba ca fa (nI kq) :: (stw G na x ++ stw G fa y3)) (pr := fun r (_ : Unit) => r = 0) (npf := fun _ => nI kq) (thf := fun _ => 1) (hhf := fun _ => hh) (Sf := fun _ => S) (Pf := fun _ => P)
      (kt_L_setCutoff_1 l G h a1 a2 o ov _ (stw G na x ++ stw G fa y3) _ [] rfl (by decide) (kt_X9_setCutoff_f1b l G h a1 a2 hst w0 w1 hv) rfl rfl (by decide) (by decide))
      (k_X10_setCutoff_f1 l G m b0 b1 (nI kq) th hh S P a1 a2 (in_iff.mpr hv)) ⟨rfl, rfl, by decide, by decide⟩ hk hn (fun r u r' u' h1 h2 => ⟨h1.symm, fun z => absurd (h1.symm.trans z) (by decide)⟩) (fun r u r' u' h1 h2 => fin_same kk hp (Nat.le_refl _) (Nat.le_refl _))
  obtain ⟨v0, v1⟩ := pz_inV hv
  have hc : 0 ≤ (S 253).toInt ∧ (S 253).toInt ≤ 30 := (rx_mI hR).1
  obtain ⟨q1, q2⟩ := rs_setCutoff hR a1 a2 v0 v1 w1
  refine law_c6 (wA := lw_fc h na ba ca fa (nI kq) :: (stw G na x ++ stw G fa y3)) (wR := stw G ba y1 ++ stw G ca y2) (mc := 0) (ms := 0) F hF hi1 e1 hi2 e2 (po := fun r (u : Int32 × Unit) => r = 0 ∧ u.1 = fa_X9_setCutoff_r x) (ovf := fun u => vp_updL ov 0 u.1.toInt64) (wAf := fun _ => [(h, .inr (9, [.ref (na 0), .ref (fa 0), .ref (ba 0), .ref (ca 0), .int (f_save_sv (nI kq))]))] ++ stw G na (sa_X9_setCutoff x a1 a2) ++ stw G fa (st_copy x y3)) (S2 := Int32 × (Nat → Int64) × (Nat → Int64)) (npf := fun u => u.1) (thf := fun _ => 0) (hhf := fun _ => hh) (Sf := fun u => u.2.1) (Pf := fun u => u.2.2)
    (k_L_setCutoff l G h a1 a2 o ov _ (stw G na x ++ stw G fa y3) (k_X9_setCutoff l G h na (ba 0) (ca 0) fa (nI kq) x y3 a1 a2 (rx_xbool hR) w0 w1 v0 v1) rfl rfl (by decide) (by decide))
    (k_X10_setCutoff l G m b0 b1 (nI kq) th hh S P kq a1 a2 rfl hkq v0 v1 (Int64.not_lt.mpr v1) w1 hc) ⟨rfl, rfl, by decide, by decide⟩ (Nat.le_trans (Nat.le_succ k) hk) (Nat.le_trans (Nat.le_add_right n 6) hn) (fun r u r' u' h1 h2 => ?_) (fun r u r' u' h1 h2 => ?_)
  · refine ⟨h1.1.symm, fun _ => ?_⟩
    show vp_updL ov 0 u.1.toInt64 0 = r'.toInt64
    rw [vpu_at, h1.2, h2.1, q2]
  · obtain ⟨np', S', P'⟩ := u'
    obtain ⟨g1, g2, g3, g4⟩ := h2
    have g2' : np' = nI (if kq = 3 then 3 else kq + 1) := g2
    have g4' : P' = md_save kq S P := g4
    have g3' : S' = _ := g3
    subst g2'; subst g4'; subst g3'
    exact fin_save kk hp (Int.le_refl T) (by omega) q1 (Nat.le_succ k) (Nat.le_add_right n 6)

set_option maxHeartbeats 4000000 in
set_option maxRecDepth 100000 in
theorem law_s7 {G : sw_E} {C : sw_C} {k n : Nat} {l : Launch} {b L : Nat} {xs : Nat → Int32} (F : sw_H G C cL_law RL wsL_law) (hF : LF G C l b L xs) (hst : l.stackTraces = false) {h m o : Nat} {i : Int32} {a1 : Int32} (hi1 : vp_in (i + 1) L) (e1 : xs (i + 1).toNatClampNeg = a1) {b0 b1 : Nat} {na ba ca fa : Nat → Nat} {kq : Nat} {th : Int32} {hh : Int64} {x y1 y2 y3 : XS} {S P ov : Nat → Int64} {T : Int} (hT : T < 1900000000) (hp : PX T kq x y1 y2 y3 S P) (hk : k + 1 ≤ room_1.cells) (hn : n + 6 ≤ room_1.slots) (kk : KK G C k n T h m o b0 b1 b i) :
    SW G C k n (WL G h m o b0 b1 na ba ca fa kq th hh x y1 y2 y3 S P ov) [(4, .int i), (3, .ref o), (2, .ref m), (1, .ref h), (0, .ref b)] 624 [] := by
  have hR := hp.2.1
  have hkq : kq < 4 := Nat.lt_succ_of_le hp.1
  by_cases hv : a1.toInt64 < 0 ∨ ¬ a1.toInt64 ≤ 23
  · skip
    refine law_c7 (wA := lw_fc h na ba ca fa (nI kq) :: (stw G na x ++ stw G fa y3)) (wR := stw G ba y1 ++ stw G ca y2) (mc := 1) (ms := 6) F hF hi1 e1 (po := fun r (_ : Unit) => r = 1) (ovf := fun _ => ov) (wAf := fun _ => lw_fc h na ba ca fa (nI kq) :: (stw G na x ++ stw G fa y3)) (pr := fun r (_ : Unit) => r = 0) (npf := fun _ => nI kq) (thf := fun _ => 1) (hhf := fun _ => hh) (Sf := fun _ => S) (Pf := fun _ => P)
      (kt_L_setContractHour_1 l G h a1 o ov _ (stw G na x ++ stw G fa y3) _ [] rfl (by decide) (kt_X9_setContractHour_f1 l G h a1 hst hv) rfl rfl (by decide) (by decide))
      (k_X10_setContractHour_f1 l G m b0 b1 (nI kq) th hh S P a1 (in_iff.mpr hv)) ⟨rfl, rfl, by decide, by decide⟩ hk hn (fun r u r' u' h1 h2 => ⟨h1.symm, fun z => absurd (h1.symm.trans z) (by decide)⟩) (fun r u r' u' h1 h2 => fin_same kk hp (Nat.le_refl _) (Nat.le_refl _))
  obtain ⟨v0, v1⟩ := pz_inV hv
  have hc : 0 ≤ (S 253).toInt ∧ (S 253).toInt ≤ 30 := (rx_mI hR).1
  obtain ⟨q1, q2⟩ := rs_setContractHour hR a1 v0 v1
  refine law_c7 (wA := lw_fc h na ba ca fa (nI kq) :: (stw G na x ++ stw G fa y3)) (wR := stw G ba y1 ++ stw G ca y2) (mc := 0) (ms := 0) F hF hi1 e1 (po := fun r (u : Int32 × Unit) => r = 0 ∧ u.1 = fa_X9_setContractHour_r x) (ovf := fun u => vp_updL ov 0 u.1.toInt64) (wAf := fun _ => [(h, .inr (9, [.ref (na 0), .ref (fa 0), .ref (ba 0), .ref (ca 0), .int (f_save_sv (nI kq))]))] ++ stw G na (sa_X9_setContractHour x a1) ++ stw G fa (st_copy x y3)) (S2 := Int32 × (Nat → Int64) × (Nat → Int64)) (npf := fun u => u.1) (thf := fun _ => 0) (hhf := fun _ => hh) (Sf := fun u => u.2.1) (Pf := fun u => u.2.2)
    (k_L_setContractHour l G h a1 o ov _ (stw G na x ++ stw G fa y3) (k_X9_setContractHour l G h na (ba 0) (ca 0) fa (nI kq) x y3 a1 (rx_xbool hR) v0 v1) rfl rfl (by decide) (by decide))
    (k_X10_setContractHour l G m b0 b1 (nI kq) th hh S P kq a1 rfl hkq v0 v1 hc) ⟨rfl, rfl, by decide, by decide⟩ (Nat.le_trans (Nat.le_succ k) hk) (Nat.le_trans (Nat.le_add_right n 6) hn) (fun r u r' u' h1 h2 => ?_) (fun r u r' u' h1 h2 => ?_)
  · refine ⟨h1.1.symm, fun _ => ?_⟩
    show vp_updL ov 0 u.1.toInt64 0 = r'.toInt64
    rw [vpu_at, h1.2, h2.1, q2]
  · obtain ⟨np', S', P'⟩ := u'
    obtain ⟨g1, g2, g3, g4⟩ := h2
    have g2' : np' = nI (if kq = 3 then 3 else kq + 1) := g2
    have g4' : P' = md_save kq S P := g4
    have g3' : S' = _ := g3
    subst g2'; subst g4'; subst g3'
    exact fin_save kk hp (Int.le_refl T) (by omega) q1 (Nat.le_succ k) (Nat.le_add_right n 6)

set_option maxHeartbeats 4000000 in
set_option maxRecDepth 100000 in
theorem law_s8 {G : sw_E} {C : sw_C} {k n : Nat} {l : Launch} {b L : Nat} {xs : Nat → Int32} (F : sw_H G C cL_law RL wsL_law) (hF : LF G C l b L xs) (hst : l.stackTraces = false) {h m o : Nat} {i : Int32} {a1 a2 : Int32} (hi1 : vp_in (i + 1) L) (e1 : xs (i + 1).toNatClampNeg = a1) (hi2 : vp_in (i + 2) L) (e2 : xs (i + 2).toNatClampNeg = a2) {b0 b1 : Nat} {na ba ca fa : Nat → Nat} {kq : Nat} {th : Int32} {hh : Int64} {x y1 y2 y3 : XS} {S P ov : Nat → Int64} {T : Int} (hT : T < 1900000000) (hp : PX T kq x y1 y2 y3 S P) (hk : k + 1 ≤ room_1.cells) (hn : n + 6 ≤ room_1.slots) (kk : KK G C k n T h m o b0 b1 b i) :
    SW G C k n (WL G h m o b0 b1 na ba ca fa kq th hh x y1 y2 y3 S P ov) [(4, .int i), (3, .ref o), (2, .ref m), (1, .ref h), (0, .ref b)] 680 [] := by
  have hR := hp.2.1
  have hkq : kq < 4 := Nat.lt_succ_of_le hp.1
  by_cases ht : a1 < 0 ∨ ¬ a1 < 4
  · skip
    refine law_c8 (wA := lw_fc h na ba ca fa (nI kq) :: (stw G na x ++ stw G fa y3)) (wR := stw G ba y1 ++ stw G ca y2) (mc := 1) (ms := 6) F hF hi1 e1 hi2 e2 (po := fun r (_ : Unit) => r = 1) (ovf := fun _ => ov) (wAf := fun _ => lw_fc h na ba ca fa (nI kq) :: (stw G na x ++ stw G fa y3)) (pr := fun r (_ : Unit) => r = 0) (npf := fun _ => nI kq) (thf := fun _ => 1) (hhf := fun _ => hh) (Sf := fun _ => S) (Pf := fun _ => P)
      (kt_L_setRaw_1 l G h a1 a2 o ov _ (stw G na x ++ stw G fa y3) _ [] rfl (by decide) (kt_X9_setRaw_f1 l G h a1 a2 hst ht) rfl rfl (by decide) (by decide))
      (k_X10_setRaw_f1 l G m b0 b1 (nI kq) th hh S P a1 a2 ((pz_ix pz_lt4).mpr ht)) ⟨rfl, rfl, by decide, by decide⟩ hk hn (fun r u r' u' h1 h2 => ⟨h1.symm, fun z => absurd (h1.symm.trans z) (by decide)⟩) (fun r u r' u' h1 h2 => fin_same kk hp (Nat.le_refl _) (Nat.le_refl _))
  by_cases hv : a2.toInt64 < 0 ∨ ¬ a2.toInt64 ≤ 65535
  · skip
    refine law_c8 (wA := lw_fc h na ba ca fa (nI kq) :: (stw G na x ++ stw G fa y3)) (wR := stw G ba y1 ++ stw G ca y2) (mc := 1) (ms := 6) F hF hi1 e1 hi2 e2 (po := fun r (_ : Unit) => r = 2) (ovf := fun _ => ov) (wAf := fun _ => lw_fc h na ba ca fa (nI kq) :: (stw G na x ++ stw G fa y3)) (pr := fun r (_ : Unit) => r = 0) (npf := fun _ => nI kq) (thf := fun _ => 2) (hhf := fun _ => hh) (Sf := fun _ => S) (Pf := fun _ => P)
      (kt_L_setRaw_2 l G h a1 a2 o ov _ (stw G na x ++ stw G fa y3) _ [] rfl (by decide) (kt_X9_setRaw_f2 l G h a1 a2 hst (pz_inN ht).1 (pz_inN ht).2 hv) rfl rfl (by decide) (by decide))
      (k_X10_setRaw_f2 l G m b0 b1 (nI kq) th hh S P a1 a2 (fun z => ht ((pz_ix pz_lt4).mp z)) (in_iff.mpr hv)) ⟨rfl, rfl, by decide, by decide⟩ hk hn (fun r u r' u' h1 h2 => ⟨h1.symm, fun z => absurd (h1.symm.trans z) (by decide)⟩) (fun r u r' u' h1 h2 => fin_same kk hp (Nat.le_refl _) (Nat.le_refl _))
  obtain ⟨v0, v1⟩ := pz_inV hv
  have hc : 0 ≤ (S 253).toInt ∧ (S 253).toInt ≤ 30 := (rx_mI hR).1
  rcases pz_four ht with e | e | e | e
  · subst e
    obtain ⟨q1, q2⟩ := rs_setRaw_0 hR a2 v0 v1
    refine law_c8 (wA := lw_fc h na ba ca fa (nI kq) :: (stw G na x ++ stw G fa y3)) (wR := stw G ba y1 ++ stw G ca y2) (mc := 0) (ms := 0) F hF hi1 e1 hi2 e2 (po := fun r (u : Int32 × Unit) => r = 0 ∧ u.1 = fa_X9_setRaw_0_r x a2) (ovf := fun u => vp_updL ov 0 u.1.toInt64) (wAf := fun _ => [(h, .inr (9, [.ref (na 0), .ref (fa 0), .ref (ba 0), .ref (ca 0), .int (f_save_sv (nI kq))]))] ++ stw G na (sa_X9_setRaw_0 x a2) ++ stw G fa (st_copy x y3)) (S2 := Int32 × (Nat → Int64) × (Nat → Int64)) (npf := fun u => u.1) (thf := fun _ => 0) (hhf := fun _ => hh) (Sf := fun u => u.2.1) (Pf := fun u => u.2.2)
      (k_L_setRaw l G h 0 a2 o ov _ (stw G na x ++ stw G fa y3) (k_X9_setRaw_0 l G h na (ba 0) (ca 0) fa (nI kq) x y3 a2 (rx_xbool hR) v0 v1) rfl rfl (by decide) (by decide))
      (k_X10_setRaw l G m b0 b1 (nI kq) th hh S P kq 0 0 a2 rfl hkq rfl (by decide) v0 v1 hc) ⟨rfl, rfl, by decide, by decide⟩ (Nat.le_trans (Nat.le_succ k) hk) (Nat.le_trans (Nat.le_add_right n 6) hn) (fun r u r' u' h1 h2 => ?_) (fun r u r' u' h1 h2 => ?_)
    · refine ⟨h1.1.symm, fun _ => ?_⟩
      show vp_updL ov 0 u.1.toInt64 0 = r'.toInt64
      rw [vpu_at, h1.2, h2.1, q2]
    · obtain ⟨np', S', P'⟩ := u'
      obtain ⟨g1, g2, g3, g4⟩ := h2
      have g2' : np' = nI (if kq = 3 then 3 else kq + 1) := g2
      have g4' : P' = md_save kq S P := g4
      have g3' : S' = _ := g3
      subst g2'; subst g4'; subst g3'
      exact fin_save kk hp (Int.le_refl T) (by omega) q1 (Nat.le_succ k) (Nat.le_add_right n 6)
  · subst e
    obtain ⟨q1, q2⟩ := rs_setRaw_1 hR a2 v0 v1
    refine law_c8 (wA := lw_fc h na ba ca fa (nI kq) :: (stw G na x ++ stw G fa y3)) (wR := stw G ba y1 ++ stw G ca y2) (mc := 0) (ms := 0) F hF hi1 e1 hi2 e2 (po := fun r (u : Int32 × Unit) => r = 0 ∧ u.1 = fa_X9_setRaw_1_r x a2) (ovf := fun u => vp_updL ov 0 u.1.toInt64) (wAf := fun _ => [(h, .inr (9, [.ref (na 0), .ref (fa 0), .ref (ba 0), .ref (ca 0), .int (f_save_sv (nI kq))]))] ++ stw G na (sa_X9_setRaw_1 x a2) ++ stw G fa (st_copy x y3)) (S2 := Int32 × (Nat → Int64) × (Nat → Int64)) (npf := fun u => u.1) (thf := fun _ => 0) (hhf := fun _ => hh) (Sf := fun u => u.2.1) (Pf := fun u => u.2.2)
      (k_L_setRaw l G h 1 a2 o ov _ (stw G na x ++ stw G fa y3) (k_X9_setRaw_1 l G h na (ba 0) (ca 0) fa (nI kq) x y3 a2 (rx_xbool hR) v0 v1) rfl rfl (by decide) (by decide))
      (k_X10_setRaw l G m b0 b1 (nI kq) th hh S P kq 1 1 a2 rfl hkq rfl (by decide) v0 v1 hc) ⟨rfl, rfl, by decide, by decide⟩ (Nat.le_trans (Nat.le_succ k) hk) (Nat.le_trans (Nat.le_add_right n 6) hn) (fun r u r' u' h1 h2 => ?_) (fun r u r' u' h1 h2 => ?_)
    · refine ⟨h1.1.symm, fun _ => ?_⟩
      show vp_updL ov 0 u.1.toInt64 0 = r'.toInt64
      rw [vpu_at, h1.2, h2.1, q2]
    · obtain ⟨np', S', P'⟩ := u'
      obtain ⟨g1, g2, g3, g4⟩ := h2
      have g2' : np' = nI (if kq = 3 then 3 else kq + 1) := g2
      have g4' : P' = md_save kq S P := g4
      have g3' : S' = _ := g3
      subst g2'; subst g4'; subst g3'
      exact fin_save kk hp (Int.le_refl T) (by omega) q1 (Nat.le_succ k) (Nat.le_add_right n 6)
  · subst e
    obtain ⟨q1, q2⟩ := rs_setRaw_2 hR a2 v0 v1
    refine law_c8 (wA := lw_fc h na ba ca fa (nI kq) :: (stw G na x ++ stw G fa y3)) (wR := stw G ba y1 ++ stw G ca y2) (mc := 0) (ms := 0) F hF hi1 e1 hi2 e2 (po := fun r (u : Int32 × Unit) => r = 0 ∧ u.1 = fa_X9_setRaw_2_r x a2) (ovf := fun u => vp_updL ov 0 u.1.toInt64) (wAf := fun _ => [(h, .inr (9, [.ref (na 0), .ref (fa 0), .ref (ba 0), .ref (ca 0), .int (f_save_sv (nI kq))]))] ++ stw G na (sa_X9_setRaw_2 x a2) ++ stw G fa (st_copy x y3)) (S2 := Int32 × (Nat → Int64) × (Nat → Int64)) (npf := fun u => u.1) (thf := fun _ => 0) (hhf := fun _ => hh) (Sf := fun u => u.2.1) (Pf := fun u => u.2.2)
      (k_L_setRaw l G h 2 a2 o ov _ (stw G na x ++ stw G fa y3) (k_X9_setRaw_2 l G h na (ba 0) (ca 0) fa (nI kq) x y3 a2 (rx_xbool hR) v0 v1) rfl rfl (by decide) (by decide))
      (k_X10_setRaw l G m b0 b1 (nI kq) th hh S P kq 2 2 a2 rfl hkq rfl (by decide) v0 v1 hc) ⟨rfl, rfl, by decide, by decide⟩ (Nat.le_trans (Nat.le_succ k) hk) (Nat.le_trans (Nat.le_add_right n 6) hn) (fun r u r' u' h1 h2 => ?_) (fun r u r' u' h1 h2 => ?_)
    · refine ⟨h1.1.symm, fun _ => ?_⟩
      show vp_updL ov 0 u.1.toInt64 0 = r'.toInt64
      rw [vpu_at, h1.2, h2.1, q2]
    · obtain ⟨np', S', P'⟩ := u'
      obtain ⟨g1, g2, g3, g4⟩ := h2
      have g2' : np' = nI (if kq = 3 then 3 else kq + 1) := g2
      have g4' : P' = md_save kq S P := g4
      have g3' : S' = _ := g3
      subst g2'; subst g4'; subst g3'
      exact fin_save kk hp (Int.le_refl T) (by omega) q1 (Nat.le_succ k) (Nat.le_add_right n 6)
  · subst e
    obtain ⟨q1, q2⟩ := rs_setRaw_3 hR a2 v0 v1
    refine law_c8 (wA := lw_fc h na ba ca fa (nI kq) :: (stw G na x ++ stw G fa y3)) (wR := stw G ba y1 ++ stw G ca y2) (mc := 0) (ms := 0) F hF hi1 e1 hi2 e2 (po := fun r (u : Int32 × Unit) => r = 0 ∧ u.1 = fa_X9_setRaw_3_r x a2) (ovf := fun u => vp_updL ov 0 u.1.toInt64) (wAf := fun _ => [(h, .inr (9, [.ref (na 0), .ref (fa 0), .ref (ba 0), .ref (ca 0), .int (f_save_sv (nI kq))]))] ++ stw G na (sa_X9_setRaw_3 x a2) ++ stw G fa (st_copy x y3)) (S2 := Int32 × (Nat → Int64) × (Nat → Int64)) (npf := fun u => u.1) (thf := fun _ => 0) (hhf := fun _ => hh) (Sf := fun u => u.2.1) (Pf := fun u => u.2.2)
      (k_L_setRaw l G h 3 a2 o ov _ (stw G na x ++ stw G fa y3) (k_X9_setRaw_3 l G h na (ba 0) (ca 0) fa (nI kq) x y3 a2 (rx_xbool hR) v0 v1) rfl rfl (by decide) (by decide))
      (k_X10_setRaw l G m b0 b1 (nI kq) th hh S P kq 3 3 a2 rfl hkq rfl (by decide) v0 v1 hc) ⟨rfl, rfl, by decide, by decide⟩ (Nat.le_trans (Nat.le_succ k) hk) (Nat.le_trans (Nat.le_add_right n 6) hn) (fun r u r' u' h1 h2 => ?_) (fun r u r' u' h1 h2 => ?_)
    · refine ⟨h1.1.symm, fun _ => ?_⟩
      show vp_updL ov 0 u.1.toInt64 0 = r'.toInt64
      rw [vpu_at, h1.2, h2.1, q2]
    · obtain ⟨np', S', P'⟩ := u'
      obtain ⟨g1, g2, g3, g4⟩ := h2
      have g2' : np' = nI (if kq = 3 then 3 else kq + 1) := g2
      have g4' : P' = md_save kq S P := g4
      have g3' : S' = _ := g3
      subst g2'; subst g4'; subst g3'
      exact fin_save kk hp (Int.le_refl T) (by omega) q1 (Nat.le_succ k) (Nat.le_add_right n 6)

set_option maxHeartbeats 4000000 in
set_option maxRecDepth 100000 in
theorem law_s9 {G : sw_E} {C : sw_C} {k n : Nat} {l : Launch} {b L : Nat} {xs : Nat → Int32} (F : sw_H G C cL_law RL wsL_law) (hF : LF G C l b L xs) (hst : l.stackTraces = false) {h m o : Nat} {i : Int32} {a1 : Int32} (hi1 : vp_in (i + 1) L) (e1 : xs (i + 1).toNatClampNeg = a1) {b0 b1 : Nat} {na ba ca fa : Nat → Nat} {kq : Nat} {th : Int32} {hh : Int64} {x y1 y2 y3 : XS} {S P ov : Nat → Int64} {T : Int} (hT : T < 1900000000) (hp : PX T kq x y1 y2 y3 S P) (hk : k + 1 ≤ room_1.cells) (hn : n + 6 ≤ room_1.slots) (kk : KK G C k n T h m o b0 b1 b i) :
    SW G C k n (WL G h m o b0 b1 na ba ca fa kq th hh x y1 y2 y3 S P ov) [(4, .int i), (3, .ref o), (2, .ref m), (1, .ref h), (0, .ref b)] 748 [] := by
  have hR := hp.2.1
  have hkq : kq < 4 := Nat.lt_succ_of_le hp.1
  by_cases hv : a1.toInt64 < 1 ∨ ¬ a1.toInt64 ≤ 20000
  · skip
    refine law_c9 (wA := lw_fc h na ba ca fa (nI kq) :: (stw G na x ++ stw G fa y3)) (wR := stw G ba y1 ++ stw G ca y2) (mc := 1) (ms := 6) F hF hi1 e1 (po := fun r (_ : Unit) => r = 1) (ovf := fun _ => ov) (wAf := fun _ => lw_fc h na ba ca fa (nI kq) :: (stw G na x ++ stw G fa y3)) (pr := fun r (_ : Unit) => r = 0) (npf := fun _ => nI kq) (thf := fun _ => 1) (hhf := fun _ => hh) (Sf := fun _ => S) (Pf := fun _ => P)
      (kt_L_run_1 l G h a1 o ov _ (stw G na x ++ stw G fa y3) _ [] rfl (by decide) (kt_X9_run_f1 l G h a1 hst hv) rfl rfl (by decide) (by decide))
      (k_X10_run_f1 l G m b0 b1 (nI kq) th hh S P a1 (in_iff.mpr hv)) ⟨rfl, rfl, by decide, by decide⟩ hk hn (fun r u r' u' h1 h2 => ⟨h1.symm, fun z => absurd (h1.symm.trans z) (by decide)⟩) (fun r u r' u' h1 h2 => fin_same kk hp (Nat.le_refl _) (Nat.le_refl _))
  obtain ⟨v0, v1⟩ := pz_inV hv
  have p0 := pz_ge (c := 1) rfl v0
  have p1 := pz_le' (c := 20000) rfl v1
  have k0 : (1 : Int32).toInt = 1 := by decide
  have k1 : (20000 : Int32).toInt = 20000 := by decide
  obtain ⟨Np, eN, hNp⟩ := pz_nat (t := a1) (by rw [Int32.lt_iff_toInt_lt]; show ¬ a1.toInt < 0; omega)
  obtain ⟨rr, ss⟩ := rx_secs hR Np (by omega)
  have w42 : (mds Np S) 42 = (secs Np x).2.1 1 := rr.2.1 1 (by decide)
  have s42 : S 42 = x.2.1 1 := hR.2.1 1 (by decide)
  have q0 : RX (T + 4 * Np) (secs Np x) (mds Np S) ∧ (mds Np S) 42 - S 42 = (secs Np x).2.1 1 - x.2.1 1 := ⟨rr, by rw [w42, s42]⟩
  obtain ⟨q1, q2⟩ := q0
  refine law_c9 (wA := lw_fc h na ba ca fa (nI kq) :: (stw G na x ++ stw G fa y3)) (wR := stw G ba y1 ++ stw G ca y2) (mc := 0) (ms := 0) F hF hi1 e1 (po := fun r (u : Int64 × Unit) => r = 0 ∧ u.1 = (secs Np x).2.1 1 - x.2.1 1) (ovf := fun u => vp_updL ov 0 u.1) (wAf := fun _ => [(h, .inr (9, [.ref (na 0), .ref (fa 0), .ref (ba 0), .ref (ca 0), .int (f_save_sv (nI kq))]))] ++ stw G na (secs Np x) ++ stw G fa (st_copy x y3)) (S2 := Int32 × Int32 × (Nat → Int64) × (Nat → Int64)) (npf := fun u => u.1) (thf := fun u => u.2.1) (hhf := fun _ => hh) (Sf := fun u => u.2.2.1) (Pf := fun u => u.2.2.2)
    (k_L_run l G h a1 o ov _ (stw G na x ++ stw G fa y3) (k_X9_run l G h na (ba 0) (ca 0) fa (nI kq) x y3 a1 Np (rx_xbool hR) v0 v1 eN (by omega) (fun k hk => (ss k hk).1)) rfl rfl (by decide) (by decide))
    (k_X10_run l G m b0 b1 (nI kq) th hh S P kq a1 Np rfl hkq v0 v1 eN (by omega) (fun k hk => (ss k hk).2)) ⟨rfl, rfl, by decide, by decide⟩ (Nat.le_trans (Nat.le_succ k) hk) (Nat.le_trans (Nat.le_add_right n 6) hn) (fun r u r' u' h1 h2 => ?_) (fun r u r' u' h1 h2 => ?_)
  · refine ⟨h2.2.2.1.trans h1.1.symm, fun _ => ?_⟩
    show vp_updL ov 0 u.1 0 = r'
    rw [vpu_at, h1.2, h2.1, q2]
  · obtain ⟨np', th', S', P'⟩ := u'
    obtain ⟨g1, g2, g5, g3, g4⟩ := h2
    have g2' : np' = nI (if kq = 3 then 3 else kq + 1) := g2
    have g4' : P' = md_save kq S P := g4
    have g5' : th' = 0 := g5
    have g3' : S' = _ := g3
    subst g2'; subst g4'; subst g3'; subst g5'
    exact fin_save kk hp (by omega) (by omega) q1 (Nat.le_succ k) (Nat.le_add_right n 6)

set_option maxHeartbeats 4000000 in
set_option maxRecDepth 100000 in
theorem law_s10 {G : sw_E} {C : sw_C} {k n : Nat} {l : Launch} {b L : Nat} {xs : Nat → Int32} (F : sw_H G C cL_law RL wsL_law) (hF : LF G C l b L xs) (hst : l.stackTraces = false) {h m o : Nat} {i : Int32} {a1 a2 : Int32} (hi1 : vp_in (i + 1) L) (e1 : xs (i + 1).toNatClampNeg = a1) (hi2 : vp_in (i + 2) L) (e2 : xs (i + 2).toNatClampNeg = a2) {b0 b1 : Nat} {na ba ca fa : Nat → Nat} {kq : Nat} {th : Int32} {hh : Int64} {x y1 y2 y3 : XS} {S P ov : Nat → Int64} {T : Int} (hT : T < 1900000000) (hp : PX T kq x y1 y2 y3 S P) (hk : k + 1 ≤ room_1.cells) (hn : n + 6 ≤ room_1.slots) (kk : KK G C k n T h m o b0 b1 b i) :
    SW G C k n (WL G h m o b0 b1 na ba ca fa kq th hh x y1 y2 y3 S P ov) [(4, .int i), (3, .ref o), (2, .ref m), (1, .ref h), (0, .ref b)] 803 [] := by
  have hR := hp.2.1
  have hkq : kq < 4 := Nat.lt_succ_of_le hp.1
  have h45 : S 45 = (x.1 31).toInt64 := hR.1 31 (by decide)
  have b31 : 0 ≤ (x.1 31).toInt ∧ (x.1 31).toInt ≤ 1 := hR.2.2.1 31 (by decide)
  by_cases hv : a1.toInt64 < 1 ∨ ¬ a1.toInt64 ≤ 1000000000
  · skip
    refine law_c10 (wA := lw_fc h na ba ca fa (nI kq) :: (stw G na x ++ stw G fa y3)) (wR := stw G ba y1 ++ stw G ca y2) (mc := 1) (ms := 6) F hF hi1 e1 hi2 e2 (po := fun r (_ : Unit) => r = 1) (ovf := fun _ => ov) (wAf := fun _ => lw_fc h na ba ca fa (nI kq) :: (stw G na x ++ stw G fa y3)) (pr := fun r (_ : Unit) => r = 0) (npf := fun _ => nI kq) (thf := fun _ => 1) (hhf := fun _ => hh) (Sf := fun _ => S) (Pf := fun _ => P)
      (kt_L_openBatch_1 l G h a1 a2 o ov _ (stw G na x ++ stw G fa y3) _ [] rfl (by decide) (kt_X9_openBatch_f1 l G h a1 a2 hst hv) rfl rfl (by decide) (by decide))
      (k_X10_openBatch_f1 l G m b0 b1 (nI kq) th hh S P a1 a2 (in_iff.mpr hv)) ⟨rfl, rfl, by decide, by decide⟩ hk hn (fun r u r' u' h1 h2 => ⟨h1.symm, fun z => absurd (h1.symm.trans z) (by decide)⟩) (fun r u r' u' h1 h2 => fin_same kk hp (Nat.le_refl _) (Nat.le_refl _))
  obtain ⟨v0, v1⟩ := pz_inV hv
  by_cases hq : a2.toInt64 < 0 ∨ ¬ a2.toInt64 ≤ 1000000000
  · skip
    refine law_c10 (wA := lw_fc h na ba ca fa (nI kq) :: (stw G na x ++ stw G fa y3)) (wR := stw G ba y1 ++ stw G ca y2) (mc := 1) (ms := 6) F hF hi1 e1 hi2 e2 (po := fun r (_ : Unit) => r = 1) (ovf := fun _ => ov) (wAf := fun _ => lw_fc h na ba ca fa (nI kq) :: (stw G na x ++ stw G fa y3)) (pr := fun r (_ : Unit) => r = 0) (npf := fun _ => nI kq) (thf := fun _ => 1) (hhf := fun _ => hh) (Sf := fun _ => S) (Pf := fun _ => P)
      (kt_L_openBatch_1 l G h a1 a2 o ov _ (stw G na x ++ stw G fa y3) _ [] rfl (by decide) (kt_X9_openBatch_f1b l G h a1 a2 hst v0 v1 hq) rfl rfl (by decide) (by decide))
      (k_X10_openBatch_f1b l G m b0 b1 (nI kq) th hh S P a1 a2 (in_not v0 v1) (in_iff.mpr hq)) ⟨rfl, rfl, by decide, by decide⟩ hk hn (fun r u r' u' h1 h2 => ⟨h1.symm, fun z => absurd (h1.symm.trans z) (by decide)⟩) (fun r u r' u' h1 h2 => fin_same kk hp (Nat.le_refl _) (Nat.le_refl _))
  obtain ⟨w0, w1⟩ := pz_inV hq
  rcases b01 b31.1 b31.2 with e | e
  · have ho : ¬ S 45 = 1 := by rw [h45, e]; decide
    obtain ⟨q1, q2⟩ := rs_openBatch hR (by omega) a1 a2 v0 v1 w0 w1
    refine law_c10 (wA := lw_fc h na ba ca fa (nI kq) :: (stw G na x ++ stw G fa y3)) (wR := stw G ba y1 ++ stw G ca y2) (mc := 0) (ms := 0) F hF hi1 e1 hi2 e2 (po := fun r (u : Int32 × Unit) => r = 0 ∧ u.1 = fa_X9_openBatch_r x) (ovf := fun u => vp_updL ov 0 u.1.toInt64) (wAf := fun _ => [(h, .inr (9, [.ref (na 0), .ref (fa 0), .ref (ba 0), .ref (ca 0), .int (f_save_sv (nI kq))]))] ++ stw G na (sa_X9_openBatch x a1 a2) ++ stw G fa (st_copy x y3)) (S2 := Int32 × (Nat → Int64) × (Nat → Int64)) (npf := fun u => u.1) (thf := fun _ => 0) (hhf := fun _ => hh) (Sf := fun u => u.2.1) (Pf := fun u => u.2.2)
      (k_L_openBatch l G h a1 a2 o ov _ (stw G na x ++ stw G fa y3) (k_X9_openBatch l G h na (ba 0) (ca 0) fa (nI kq) x y3 a1 a2 (rx_xbool hR) v0 v1 w0 w1 e) rfl rfl (by decide) (by decide))
      (k_X10_openBatch l G m b0 b1 (nI kq) th hh S P kq a1 a2 rfl hkq v0 v1 w0 w1 ho) ⟨rfl, rfl, by decide, by decide⟩ (Nat.le_trans (Nat.le_succ k) hk) (Nat.le_trans (Nat.le_add_right n 6) hn) (fun r u r' u' h1 h2 => ?_) (fun r u r' u' h1 h2 => ?_)
    · refine ⟨h1.1.symm, fun _ => ?_⟩
      show vp_updL ov 0 u.1.toInt64 0 = r'.toInt64
      rw [vpu_at, h1.2, h2.1, q2]
    · obtain ⟨np', S', P'⟩ := u'
      obtain ⟨g1, g2, g3, g4⟩ := h2
      have g2' : np' = nI (if kq = 3 then 3 else kq + 1) := g2
      have g4' : P' = md_save kq S P := g4
      have g3' : S' = _ := g3
      subst g2'; subst g4'; subst g3'
      exact fin_save kk hp (show T ≤ T + 1 by omega) (by omega) q1 (Nat.le_succ k) (Nat.le_add_right n 6)
  · have ho : S 45 = 1 := by rw [h45, e]; rfl
    refine law_c10 (wA := lw_fc h na ba ca fa (nI kq) :: (stw G na x ++ stw G fa y3)) (wR := stw G ba y1 ++ stw G ca y2) (mc := 1) (ms := 6) F hF hi1 e1 hi2 e2 (po := fun r (_ : Unit) => r = 2) (ovf := fun _ => ov) (wAf := fun _ => lw_fc h na ba ca fa (nI kq) :: (stw G na x ++ stw G fa y3)) (pr := fun r (_ : Unit) => r = 0) (npf := fun _ => nI kq) (thf := fun _ => 2) (hhf := fun _ => hh) (Sf := fun _ => S) (Pf := fun _ => P)
      (kt_L_openBatch_2 l G h a1 a2 o ov _ (stw G na x ++ stw G fa y3) _ [1, 2, 11] rfl (by decide) (kt_X9_openBatch_f2 l G h na (ba 0) (ca 0) fa (nI kq) x a1 a2 hst v0 v1 w0 w1 (by rw [e]; decide)) rfl rfl (by decide) (by decide))
      (k_X10_openBatch_f2 l G m b0 b1 (nI kq) th hh S P a1 a2 (in_not v0 v1) (in_not w0 w1) ho) ⟨rfl, rfl, by decide, by decide⟩ hk hn (fun r u r' u' h1 h2 => ⟨h1.symm, fun z => absurd (h1.symm.trans z) (by decide)⟩) (fun r u r' u' h1 h2 => fin_same kk hp (Nat.le_refl _) (Nat.le_refl _))

set_option maxHeartbeats 4000000 in
set_option maxRecDepth 100000 in
theorem law_s11 {G : sw_E} {C : sw_C} {k n : Nat} {l : Launch} {b L : Nat} {xs : Nat → Int32} (F : sw_H G C cL_law RL wsL_law) (hF : LF G C l b L xs) (hst : l.stackTraces = false) {h m o : Nat} {i : Int32} {b0 b1 : Nat} {na ba ca fa : Nat → Nat} {kq : Nat} {th : Int32} {hh : Int64} {x y1 y2 y3 : XS} {S P ov : Nat → Int64} {T : Int} (hT : T < 1900000000) (hp : PX T kq x y1 y2 y3 S P) (hk : k + 1 ≤ room_1.cells) (hn : n + 6 ≤ room_1.slots) (kk : KK G C k n T h m o b0 b1 b i) :
    SW G C k n (WL G h m o b0 b1 na ba ca fa kq th hh x y1 y2 y3 S P ov) [(4, .int i), (3, .ref o), (2, .ref m), (1, .ref h), (0, .ref b)] 871 [] := by
  have hR := hp.2.1
  have hkq : kq < 4 := Nat.lt_succ_of_le hp.1
  have h45 : S 45 = (x.1 31).toInt64 := hR.1 31 (by decide)
  have b31 : 0 ≤ (x.1 31).toInt ∧ (x.1 31).toInt ≤ 1 := hR.2.2.1 31 (by decide)
  rcases b01 b31.1 b31.2 with e | e
  · have ho : S 45 = 0 := by rw [h45, e]; rfl
    refine law_c11 (wA := lw_fc h na ba ca fa (nI kq) :: (stw G na x ++ stw G fa y3)) (wR := stw G ba y1 ++ stw G ca y2) (mc := 1) (ms := 6) F hF  (po := fun r (_ : Unit) => r = 1) (ovf := fun _ => ov) (wAf := fun _ => lw_fc h na ba ca fa (nI kq) :: (stw G na x ++ stw G fa y3)) (pr := fun r (_ : Unit) => r = 0) (npf := fun _ => nI kq) (thf := fun _ => 1) (hhf := fun _ => hh) (Sf := fun _ => S) (Pf := fun _ => P)
      (kt_L_closeBatch_1 l G h  o ov _ (stw G na x ++ stw G fa y3) _ [1, 2, 11] rfl (by decide) (kt_X9_closeBatch_f1 l G h na (ba 0) (ca 0) fa (nI kq) x hst e) rfl rfl (by decide) (by decide))
      (k_X10_closeBatch_f1 l G m b0 b1 (nI kq) th hh S P ho) ⟨rfl, rfl, by decide, by decide⟩ hk hn (fun r u r' u' h1 h2 => ⟨h1.symm, fun z => absurd (h1.symm.trans z) (by decide)⟩) (fun r u r' u' h1 h2 => fin_same kk hp (Nat.le_refl _) (Nat.le_refl _))
  · have ho : ¬ S 45 = 0 := by rw [h45, e]; decide
    obtain ⟨q1, q2⟩ := rs_closeBatch hR
    refine law_c11 (wA := lw_fc h na ba ca fa (nI kq) :: (stw G na x ++ stw G fa y3)) (wR := stw G ba y1 ++ stw G ca y2) (mc := 0) (ms := 0) F hF  (po := fun r (u : Int64 × Unit) => r = 0 ∧ u.1 = fa_X9_closeBatch_r x) (ovf := fun u => vp_updL ov 0 u.1) (wAf := fun _ => [(h, .inr (9, [.ref (na 0), .ref (fa 0), .ref (ba 0), .ref (ca 0), .int (f_save_sv (nI kq))]))] ++ stw G na (sa_X9_closeBatch x) ++ stw G fa (st_copy x y3)) (S2 := Int32 × (Nat → Int64) × (Nat → Int64)) (npf := fun u => u.1) (thf := fun _ => 0) (hhf := fun _ => hh) (Sf := fun u => u.2.1) (Pf := fun u => u.2.2)
      (k_L_closeBatch l G h  o ov _ (stw G na x ++ stw G fa y3) (k_X9_closeBatch l G h na (ba 0) (ca 0) fa (nI kq) x y3 (rx_xbool hR) (by rw [e]; decide)) rfl rfl (by decide) (by decide))
      (k_X10_closeBatch l G m b0 b1 (nI kq) th hh S P kq rfl hkq ho) ⟨rfl, rfl, by decide, by decide⟩ (Nat.le_trans (Nat.le_succ k) hk) (Nat.le_trans (Nat.le_add_right n 6) hn) (fun r u r' u' h1 h2 => ?_) (fun r u r' u' h1 h2 => ?_)
    · refine ⟨h1.1.symm, fun _ => ?_⟩
      show vp_updL ov 0 u.1 0 = r'
      rw [vpu_at, h1.2, h2.1, q2]
    · obtain ⟨np', S', P'⟩ := u'
      obtain ⟨g1, g2, g3, g4⟩ := h2
      have g2' : np' = nI (if kq = 3 then 3 else kq + 1) := g2
      have g4' : P' = md_save kq S P := g4
      have g3' : S' = _ := g3
      subst g2'; subst g4'; subst g3'
      exact fin_save kk hp (Int.le_refl T) (by omega) q1 (Nat.le_succ k) (Nat.le_add_right n 6)

set_option maxHeartbeats 4000000 in
set_option maxRecDepth 100000 in
theorem law_s12 {G : sw_E} {C : sw_C} {k n : Nat} {l : Launch} {b L : Nat} {xs : Nat → Int32} (F : sw_H G C cL_law RL wsL_law) (hF : LF G C l b L xs) (hst : l.stackTraces = false) {h m o : Nat} {i : Int32} {a1 a2 : Int32} (hi1 : vp_in (i + 1) L) (e1 : xs (i + 1).toNatClampNeg = a1) (hi2 : vp_in (i + 2) L) (e2 : xs (i + 2).toNatClampNeg = a2) {b0 b1 : Nat} {na ba ca fa : Nat → Nat} {kq : Nat} {th : Int32} {hh : Int64} {x y1 y2 y3 : XS} {S P ov : Nat → Int64} {T : Int} (hT : T < 1900000000) (hp : PX T kq x y1 y2 y3 S P) (hk : k + 1 ≤ room_1.cells) (hn : n + 6 ≤ room_1.slots) (kk : KK G C k n T h m o b0 b1 b i) :
    SW G C k n (WL G h m o b0 b1 na ba ca fa kq th hh x y1 y2 y3 S P ov) [(4, .int i), (3, .ref o), (2, .ref m), (1, .ref h), (0, .ref b)] 914 [] := by
  have hR := hp.2.1
  have hkq : kq < 4 := Nat.lt_succ_of_le hp.1
  by_cases ht : a1 < 0 ∨ ¬ a1 < 4
  · skip
    refine law_c12 (wA := lw_fc h na ba ca fa (nI kq) :: (stw G na x ++ stw G fa y3)) (wR := stw G ba y1 ++ stw G ca y2) (mc := 1) (ms := 6) F hF hi1 e1 hi2 e2 (po := fun r (_ : Unit) => r = 1) (ovf := fun _ => ov) (wAf := fun _ => lw_fc h na ba ca fa (nI kq) :: (stw G na x ++ stw G fa y3)) (pr := fun r (_ : Unit) => r = 0) (npf := fun _ => nI kq) (thf := fun _ => 1) (hhf := fun _ => hh) (Sf := fun _ => S) (Pf := fun _ => P)
      (kt_L_transmitter_1 l G h a1 a2 o ov _ (stw G na x ++ stw G fa y3) _ [] rfl (by decide) (kt_X9_transmitter_f1 l G h a1 a2 hst ht) rfl rfl (by decide) (by decide))
      (k_X10_transmitter_f1 l G m b0 b1 (nI kq) th hh S P a1 a2 ((pz_ix pz_lt4).mpr ht)) ⟨rfl, rfl, by decide, by decide⟩ hk hn (fun r u r' u' h1 h2 => ⟨h1.symm, fun z => absurd (h1.symm.trans z) (by decide)⟩) (fun r u r' u' h1 h2 => fin_same kk hp (Nat.le_refl _) (Nat.le_refl _))
  by_cases hv : a2.toInt64 < 0 ∨ ¬ a2.toInt64 ≤ 3
  · skip
    refine law_c12 (wA := lw_fc h na ba ca fa (nI kq) :: (stw G na x ++ stw G fa y3)) (wR := stw G ba y1 ++ stw G ca y2) (mc := 1) (ms := 6) F hF hi1 e1 hi2 e2 (po := fun r (_ : Unit) => r = 2) (ovf := fun _ => ov) (wAf := fun _ => lw_fc h na ba ca fa (nI kq) :: (stw G na x ++ stw G fa y3)) (pr := fun r (_ : Unit) => r = 0) (npf := fun _ => nI kq) (thf := fun _ => 2) (hhf := fun _ => hh) (Sf := fun _ => S) (Pf := fun _ => P)
      (kt_L_transmitter_2 l G h a1 a2 o ov _ (stw G na x ++ stw G fa y3) _ [] rfl (by decide) (kt_X9_transmitter_f2 l G h a1 a2 hst (pz_inN ht).1 (pz_inN ht).2 hv) rfl rfl (by decide) (by decide))
      (k_X10_transmitter_f2 l G m b0 b1 (nI kq) th hh S P a1 a2 (fun z => ht ((pz_ix pz_lt4).mp z)) (in_iff.mpr hv)) ⟨rfl, rfl, by decide, by decide⟩ hk hn (fun r u r' u' h1 h2 => ⟨h1.symm, fun z => absurd (h1.symm.trans z) (by decide)⟩) (fun r u r' u' h1 h2 => fin_same kk hp (Nat.le_refl _) (Nat.le_refl _))
  have hv4 : ¬ (a2 < 0 ∨ ¬ a2 < 4) := fun z => hv (in_iff.mp ((pz_ix pz_lt4).mpr z))
  rcases pz_four ht with e | e | e | e
  · subst e
    obtain ⟨t0, t1, t2, t3⟩ := rs_transmitter_0 hR
    rcases pz_four hv4 with g | g | g | g
    · subst g
      rw [wl_read]
      refine law_c12 (wA := lw_fc h na ba ca fa (nI kq) :: stw G na x) (wR := stw G fa y3 ++ (stw G ba y1 ++ stw G ca y2)) (mc := 0) (ms := 0) F hF hi1 e1 hi2 e2 (po := fun r (u : Int32 × Unit) => r = 0 ∧ u.1 = fa_X9_transmitter_0_0_r x) (ovf := fun u => vp_updL ov 0 u.1.toInt64) (wAf := fun _ => lw_fc h na ba ca fa (nI kq) :: stw G na x) (pr := fun r (_ : Unit) => r = f_X10_transmitter_0_r S 0 0) (npf := fun _ => nI kq) (thf := fun _ => 0) (hhf := fun _ => hh) (Sf := fun _ => S) (Pf := fun _ => P)
        (k_L_transmitter l G h 0 0 o ov _ (stw G na x) (k_X9_transmitter_0_0 l G h na (ba 0) (ca 0) fa (nI kq) x) rfl rfl (by decide) (by decide))
        (k_X10_transmitter_0 l G m b0 b1 (nI kq) th hh S P 0 0 rfl (by decide)) ⟨rfl, rfl, by decide, by decide⟩ (Nat.le_trans (Nat.le_succ k) hk) (Nat.le_trans (Nat.le_add_right n 6) hn) (fun r u r' u' h1 h2 => ?_) (fun r u r' u' h1 h2 => fin_read kk hp (Nat.le_succ k) (Nat.le_add_right n 6))
      refine ⟨h1.1.symm, fun _ => ?_⟩
      show vp_updL ov 0 u.1.toInt64 0 = r'.toInt64
      rw [vpu_at, h1.2, h2, t0]
    · subst g
      rw [wl_read]
      refine law_c12 (wA := lw_fc h na ba ca fa (nI kq) :: stw G na x) (wR := stw G fa y3 ++ (stw G ba y1 ++ stw G ca y2)) (mc := 0) (ms := 0) F hF hi1 e1 hi2 e2 (po := fun r (u : Int32 × Unit) => r = 0 ∧ u.1 = fa_X9_transmitter_0_1_r x) (ovf := fun u => vp_updL ov 0 u.1.toInt64) (wAf := fun _ => lw_fc h na ba ca fa (nI kq) :: stw G na x) (pr := fun r (_ : Unit) => r = f_X10_transmitter_1_r S 0) (npf := fun _ => nI kq) (thf := fun _ => 0) (hhf := fun _ => hh) (Sf := fun _ => S) (Pf := fun _ => P)
        (k_L_transmitter l G h 0 1 o ov _ (stw G na x) (k_X9_transmitter_0_1 l G h na (ba 0) (ca 0) fa (nI kq) x) rfl rfl (by decide) (by decide))
        (k_X10_transmitter_1 l G m b0 b1 (nI kq) th hh S P 0 0 rfl (by decide)) ⟨rfl, rfl, by decide, by decide⟩ (Nat.le_trans (Nat.le_succ k) hk) (Nat.le_trans (Nat.le_add_right n 6) hn) (fun r u r' u' h1 h2 => ?_) (fun r u r' u' h1 h2 => fin_read kk hp (Nat.le_succ k) (Nat.le_add_right n 6))
      refine ⟨h1.1.symm, fun _ => ?_⟩
      show vp_updL ov 0 u.1.toInt64 0 = r'.toInt64
      rw [vpu_at, h1.2, h2, t1]
    · subst g
      rw [wl_read]
      refine law_c12 (wA := lw_fc h na ba ca fa (nI kq) :: stw G na x) (wR := stw G fa y3 ++ (stw G ba y1 ++ stw G ca y2)) (mc := 0) (ms := 0) F hF hi1 e1 hi2 e2 (po := fun r (u : Int32 × Unit) => r = 0 ∧ u.1 = fa_X9_transmitter_0_2_r x) (ovf := fun u => vp_updL ov 0 u.1.toInt64) (wAf := fun _ => lw_fc h na ba ca fa (nI kq) :: stw G na x) (pr := fun r (_ : Unit) => r = f_X10_transmitter_2_r S 0) (npf := fun _ => nI kq) (thf := fun _ => 0) (hhf := fun _ => hh) (Sf := fun _ => S) (Pf := fun _ => P)
        (k_L_transmitter l G h 0 2 o ov _ (stw G na x) (k_X9_transmitter_0_2 l G h na (ba 0) (ca 0) fa (nI kq) x) rfl rfl (by decide) (by decide))
        (k_X10_transmitter_2 l G m b0 b1 (nI kq) th hh S P 0 0 rfl (by decide)) ⟨rfl, rfl, by decide, by decide⟩ (Nat.le_trans (Nat.le_succ k) hk) (Nat.le_trans (Nat.le_add_right n 6) hn) (fun r u r' u' h1 h2 => ?_) (fun r u r' u' h1 h2 => fin_read kk hp (Nat.le_succ k) (Nat.le_add_right n 6))
      refine ⟨h1.1.symm, fun _ => ?_⟩
      show vp_updL ov 0 u.1.toInt64 0 = r'.toInt64
      rw [vpu_at, h1.2, h2, t2]
    · subst g
      rw [wl_read]
      refine law_c12 (wA := lw_fc h na ba ca fa (nI kq) :: stw G na x) (wR := stw G fa y3 ++ (stw G ba y1 ++ stw G ca y2)) (mc := 0) (ms := 0) F hF hi1 e1 hi2 e2 (po := fun r (u : Int32 × Unit) => r = 0 ∧ u.1 = fa_X9_transmitter_0_3_r x) (ovf := fun u => vp_updL ov 0 u.1.toInt64) (wAf := fun _ => lw_fc h na ba ca fa (nI kq) :: stw G na x) (pr := fun r (_ : Unit) => r = f_X10_transmitter_3_r S 0) (npf := fun _ => nI kq) (thf := fun _ => 0) (hhf := fun _ => hh) (Sf := fun _ => S) (Pf := fun _ => P)
        (k_L_transmitter l G h 0 3 o ov _ (stw G na x) (k_X9_transmitter_0_3 l G h na (ba 0) (ca 0) fa (nI kq) x) rfl rfl (by decide) (by decide))
        (k_X10_transmitter_3 l G m b0 b1 (nI kq) th hh S P 0 0 rfl (by decide)) ⟨rfl, rfl, by decide, by decide⟩ (Nat.le_trans (Nat.le_succ k) hk) (Nat.le_trans (Nat.le_add_right n 6) hn) (fun r u r' u' h1 h2 => ?_) (fun r u r' u' h1 h2 => fin_read kk hp (Nat.le_succ k) (Nat.le_add_right n 6))
      refine ⟨h1.1.symm, fun _ => ?_⟩
      show vp_updL ov 0 u.1.toInt64 0 = r'.toInt64
      rw [vpu_at, h1.2, h2, t3]
  · subst e
    obtain ⟨t0, t1, t2, t3⟩ := rs_transmitter_1 hR
    rcases pz_four hv4 with g | g | g | g
    · subst g
      rw [wl_read]
      refine law_c12 (wA := lw_fc h na ba ca fa (nI kq) :: stw G na x) (wR := stw G fa y3 ++ (stw G ba y1 ++ stw G ca y2)) (mc := 0) (ms := 0) F hF hi1 e1 hi2 e2 (po := fun r (u : Int32 × Unit) => r = 0 ∧ u.1 = fa_X9_transmitter_1_0_r x) (ovf := fun u => vp_updL ov 0 u.1.toInt64) (wAf := fun _ => lw_fc h na ba ca fa (nI kq) :: stw G na x) (pr := fun r (_ : Unit) => r = f_X10_transmitter_0_r S 1 1) (npf := fun _ => nI kq) (thf := fun _ => 0) (hhf := fun _ => hh) (Sf := fun _ => S) (Pf := fun _ => P)
        (k_L_transmitter l G h 1 0 o ov _ (stw G na x) (k_X9_transmitter_1_0 l G h na (ba 0) (ca 0) fa (nI kq) x) rfl rfl (by decide) (by decide))
        (k_X10_transmitter_0 l G m b0 b1 (nI kq) th hh S P 1 1 rfl (by decide)) ⟨rfl, rfl, by decide, by decide⟩ (Nat.le_trans (Nat.le_succ k) hk) (Nat.le_trans (Nat.le_add_right n 6) hn) (fun r u r' u' h1 h2 => ?_) (fun r u r' u' h1 h2 => fin_read kk hp (Nat.le_succ k) (Nat.le_add_right n 6))
      refine ⟨h1.1.symm, fun _ => ?_⟩
      show vp_updL ov 0 u.1.toInt64 0 = r'.toInt64
      rw [vpu_at, h1.2, h2, t0]
    · subst g
      rw [wl_read]
      refine law_c12 (wA := lw_fc h na ba ca fa (nI kq) :: stw G na x) (wR := stw G fa y3 ++ (stw G ba y1 ++ stw G ca y2)) (mc := 0) (ms := 0) F hF hi1 e1 hi2 e2 (po := fun r (u : Int32 × Unit) => r = 0 ∧ u.1 = fa_X9_transmitter_1_1_r x) (ovf := fun u => vp_updL ov 0 u.1.toInt64) (wAf := fun _ => lw_fc h na ba ca fa (nI kq) :: stw G na x) (pr := fun r (_ : Unit) => r = f_X10_transmitter_1_r S 1) (npf := fun _ => nI kq) (thf := fun _ => 0) (hhf := fun _ => hh) (Sf := fun _ => S) (Pf := fun _ => P)
        (k_L_transmitter l G h 1 1 o ov _ (stw G na x) (k_X9_transmitter_1_1 l G h na (ba 0) (ca 0) fa (nI kq) x) rfl rfl (by decide) (by decide))
        (k_X10_transmitter_1 l G m b0 b1 (nI kq) th hh S P 1 1 rfl (by decide)) ⟨rfl, rfl, by decide, by decide⟩ (Nat.le_trans (Nat.le_succ k) hk) (Nat.le_trans (Nat.le_add_right n 6) hn) (fun r u r' u' h1 h2 => ?_) (fun r u r' u' h1 h2 => fin_read kk hp (Nat.le_succ k) (Nat.le_add_right n 6))
      refine ⟨h1.1.symm, fun _ => ?_⟩
      show vp_updL ov 0 u.1.toInt64 0 = r'.toInt64
      rw [vpu_at, h1.2, h2, t1]
    · subst g
      rw [wl_read]
      refine law_c12 (wA := lw_fc h na ba ca fa (nI kq) :: stw G na x) (wR := stw G fa y3 ++ (stw G ba y1 ++ stw G ca y2)) (mc := 0) (ms := 0) F hF hi1 e1 hi2 e2 (po := fun r (u : Int32 × Unit) => r = 0 ∧ u.1 = fa_X9_transmitter_1_2_r x) (ovf := fun u => vp_updL ov 0 u.1.toInt64) (wAf := fun _ => lw_fc h na ba ca fa (nI kq) :: stw G na x) (pr := fun r (_ : Unit) => r = f_X10_transmitter_2_r S 1) (npf := fun _ => nI kq) (thf := fun _ => 0) (hhf := fun _ => hh) (Sf := fun _ => S) (Pf := fun _ => P)
        (k_L_transmitter l G h 1 2 o ov _ (stw G na x) (k_X9_transmitter_1_2 l G h na (ba 0) (ca 0) fa (nI kq) x) rfl rfl (by decide) (by decide))
        (k_X10_transmitter_2 l G m b0 b1 (nI kq) th hh S P 1 1 rfl (by decide)) ⟨rfl, rfl, by decide, by decide⟩ (Nat.le_trans (Nat.le_succ k) hk) (Nat.le_trans (Nat.le_add_right n 6) hn) (fun r u r' u' h1 h2 => ?_) (fun r u r' u' h1 h2 => fin_read kk hp (Nat.le_succ k) (Nat.le_add_right n 6))
      refine ⟨h1.1.symm, fun _ => ?_⟩
      show vp_updL ov 0 u.1.toInt64 0 = r'.toInt64
      rw [vpu_at, h1.2, h2, t2]
    · subst g
      rw [wl_read]
      refine law_c12 (wA := lw_fc h na ba ca fa (nI kq) :: stw G na x) (wR := stw G fa y3 ++ (stw G ba y1 ++ stw G ca y2)) (mc := 0) (ms := 0) F hF hi1 e1 hi2 e2 (po := fun r (u : Int32 × Unit) => r = 0 ∧ u.1 = fa_X9_transmitter_1_3_r x) (ovf := fun u => vp_updL ov 0 u.1.toInt64) (wAf := fun _ => lw_fc h na ba ca fa (nI kq) :: stw G na x) (pr := fun r (_ : Unit) => r = f_X10_transmitter_3_r S 1) (npf := fun _ => nI kq) (thf := fun _ => 0) (hhf := fun _ => hh) (Sf := fun _ => S) (Pf := fun _ => P)
        (k_L_transmitter l G h 1 3 o ov _ (stw G na x) (k_X9_transmitter_1_3 l G h na (ba 0) (ca 0) fa (nI kq) x) rfl rfl (by decide) (by decide))
        (k_X10_transmitter_3 l G m b0 b1 (nI kq) th hh S P 1 1 rfl (by decide)) ⟨rfl, rfl, by decide, by decide⟩ (Nat.le_trans (Nat.le_succ k) hk) (Nat.le_trans (Nat.le_add_right n 6) hn) (fun r u r' u' h1 h2 => ?_) (fun r u r' u' h1 h2 => fin_read kk hp (Nat.le_succ k) (Nat.le_add_right n 6))
      refine ⟨h1.1.symm, fun _ => ?_⟩
      show vp_updL ov 0 u.1.toInt64 0 = r'.toInt64
      rw [vpu_at, h1.2, h2, t3]
  · subst e
    obtain ⟨t0, t1, t2, t3⟩ := rs_transmitter_2 hR
    rcases pz_four hv4 with g | g | g | g
    · subst g
      rw [wl_read]
      refine law_c12 (wA := lw_fc h na ba ca fa (nI kq) :: stw G na x) (wR := stw G fa y3 ++ (stw G ba y1 ++ stw G ca y2)) (mc := 0) (ms := 0) F hF hi1 e1 hi2 e2 (po := fun r (u : Int32 × Unit) => r = 0 ∧ u.1 = fa_X9_transmitter_2_0_r x) (ovf := fun u => vp_updL ov 0 u.1.toInt64) (wAf := fun _ => lw_fc h na ba ca fa (nI kq) :: stw G na x) (pr := fun r (_ : Unit) => r = f_X10_transmitter_0_r S 2 2) (npf := fun _ => nI kq) (thf := fun _ => 0) (hhf := fun _ => hh) (Sf := fun _ => S) (Pf := fun _ => P)
        (k_L_transmitter l G h 2 0 o ov _ (stw G na x) (k_X9_transmitter_2_0 l G h na (ba 0) (ca 0) fa (nI kq) x) rfl rfl (by decide) (by decide))
        (k_X10_transmitter_0 l G m b0 b1 (nI kq) th hh S P 2 2 rfl (by decide)) ⟨rfl, rfl, by decide, by decide⟩ (Nat.le_trans (Nat.le_succ k) hk) (Nat.le_trans (Nat.le_add_right n 6) hn) (fun r u r' u' h1 h2 => ?_) (fun r u r' u' h1 h2 => fin_read kk hp (Nat.le_succ k) (Nat.le_add_right n 6))
      refine ⟨h1.1.symm, fun _ => ?_⟩
      show vp_updL ov 0 u.1.toInt64 0 = r'.toInt64
      rw [vpu_at, h1.2, h2, t0]
    · subst g
      rw [wl_read]
      refine law_c12 (wA := lw_fc h na ba ca fa (nI kq) :: stw G na x) (wR := stw G fa y3 ++ (stw G ba y1 ++ stw G ca y2)) (mc := 0) (ms := 0) F hF hi1 e1 hi2 e2 (po := fun r (u : Int32 × Unit) => r = 0 ∧ u.1 = fa_X9_transmitter_2_1_r x) (ovf := fun u => vp_updL ov 0 u.1.toInt64) (wAf := fun _ => lw_fc h na ba ca fa (nI kq) :: stw G na x) (pr := fun r (_ : Unit) => r = f_X10_transmitter_1_r S 2) (npf := fun _ => nI kq) (thf := fun _ => 0) (hhf := fun _ => hh) (Sf := fun _ => S) (Pf := fun _ => P)
        (k_L_transmitter l G h 2 1 o ov _ (stw G na x) (k_X9_transmitter_2_1 l G h na (ba 0) (ca 0) fa (nI kq) x) rfl rfl (by decide) (by decide))
        (k_X10_transmitter_1 l G m b0 b1 (nI kq) th hh S P 2 2 rfl (by decide)) ⟨rfl, rfl, by decide, by decide⟩ (Nat.le_trans (Nat.le_succ k) hk) (Nat.le_trans (Nat.le_add_right n 6) hn) (fun r u r' u' h1 h2 => ?_) (fun r u r' u' h1 h2 => fin_read kk hp (Nat.le_succ k) (Nat.le_add_right n 6))
      refine ⟨h1.1.symm, fun _ => ?_⟩
      show vp_updL ov 0 u.1.toInt64 0 = r'.toInt64
      rw [vpu_at, h1.2, h2, t1]
    · subst g
      rw [wl_read]
      refine law_c12 (wA := lw_fc h na ba ca fa (nI kq) :: stw G na x) (wR := stw G fa y3 ++ (stw G ba y1 ++ stw G ca y2)) (mc := 0) (ms := 0) F hF hi1 e1 hi2 e2 (po := fun r (u : Int32 × Unit) => r = 0 ∧ u.1 = fa_X9_transmitter_2_2_r x) (ovf := fun u => vp_updL ov 0 u.1.toInt64) (wAf := fun _ => lw_fc h na ba ca fa (nI kq) :: stw G na x) (pr := fun r (_ : Unit) => r = f_X10_transmitter_2_r S 2) (npf := fun _ => nI kq) (thf := fun _ => 0) (hhf := fun _ => hh) (Sf := fun _ => S) (Pf := fun _ => P)
        (k_L_transmitter l G h 2 2 o ov _ (stw G na x) (k_X9_transmitter_2_2 l G h na (ba 0) (ca 0) fa (nI kq) x) rfl rfl (by decide) (by decide))
        (k_X10_transmitter_2 l G m b0 b1 (nI kq) th hh S P 2 2 rfl (by decide)) ⟨rfl, rfl, by decide, by decide⟩ (Nat.le_trans (Nat.le_succ k) hk) (Nat.le_trans (Nat.le_add_right n 6) hn) (fun r u r' u' h1 h2 => ?_) (fun r u r' u' h1 h2 => fin_read kk hp (Nat.le_succ k) (Nat.le_add_right n 6))
      refine ⟨h1.1.symm, fun _ => ?_⟩
      show vp_updL ov 0 u.1.toInt64 0 = r'.toInt64
      rw [vpu_at, h1.2, h2, t2]
    · subst g
      rw [wl_read]
      refine law_c12 (wA := lw_fc h na ba ca fa (nI kq) :: stw G na x) (wR := stw G fa y3 ++ (stw G ba y1 ++ stw G ca y2)) (mc := 0) (ms := 0) F hF hi1 e1 hi2 e2 (po := fun r (u : Int32 × Unit) => r = 0 ∧ u.1 = fa_X9_transmitter_2_3_r x) (ovf := fun u => vp_updL ov 0 u.1.toInt64) (wAf := fun _ => lw_fc h na ba ca fa (nI kq) :: stw G na x) (pr := fun r (_ : Unit) => r = f_X10_transmitter_3_r S 2) (npf := fun _ => nI kq) (thf := fun _ => 0) (hhf := fun _ => hh) (Sf := fun _ => S) (Pf := fun _ => P)
        (k_L_transmitter l G h 2 3 o ov _ (stw G na x) (k_X9_transmitter_2_3 l G h na (ba 0) (ca 0) fa (nI kq) x) rfl rfl (by decide) (by decide))
        (k_X10_transmitter_3 l G m b0 b1 (nI kq) th hh S P 2 2 rfl (by decide)) ⟨rfl, rfl, by decide, by decide⟩ (Nat.le_trans (Nat.le_succ k) hk) (Nat.le_trans (Nat.le_add_right n 6) hn) (fun r u r' u' h1 h2 => ?_) (fun r u r' u' h1 h2 => fin_read kk hp (Nat.le_succ k) (Nat.le_add_right n 6))
      refine ⟨h1.1.symm, fun _ => ?_⟩
      show vp_updL ov 0 u.1.toInt64 0 = r'.toInt64
      rw [vpu_at, h1.2, h2, t3]
  · subst e
    obtain ⟨t0, t1, t2, t3⟩ := rs_transmitter_3 hR
    rcases pz_four hv4 with g | g | g | g
    · subst g
      rw [wl_read]
      refine law_c12 (wA := lw_fc h na ba ca fa (nI kq) :: stw G na x) (wR := stw G fa y3 ++ (stw G ba y1 ++ stw G ca y2)) (mc := 0) (ms := 0) F hF hi1 e1 hi2 e2 (po := fun r (u : Int32 × Unit) => r = 0 ∧ u.1 = fa_X9_transmitter_3_0_r x) (ovf := fun u => vp_updL ov 0 u.1.toInt64) (wAf := fun _ => lw_fc h na ba ca fa (nI kq) :: stw G na x) (pr := fun r (_ : Unit) => r = f_X10_transmitter_0_r S 3 3) (npf := fun _ => nI kq) (thf := fun _ => 0) (hhf := fun _ => hh) (Sf := fun _ => S) (Pf := fun _ => P)
        (k_L_transmitter l G h 3 0 o ov _ (stw G na x) (k_X9_transmitter_3_0 l G h na (ba 0) (ca 0) fa (nI kq) x) rfl rfl (by decide) (by decide))
        (k_X10_transmitter_0 l G m b0 b1 (nI kq) th hh S P 3 3 rfl (by decide)) ⟨rfl, rfl, by decide, by decide⟩ (Nat.le_trans (Nat.le_succ k) hk) (Nat.le_trans (Nat.le_add_right n 6) hn) (fun r u r' u' h1 h2 => ?_) (fun r u r' u' h1 h2 => fin_read kk hp (Nat.le_succ k) (Nat.le_add_right n 6))
      refine ⟨h1.1.symm, fun _ => ?_⟩
      show vp_updL ov 0 u.1.toInt64 0 = r'.toInt64
      rw [vpu_at, h1.2, h2, t0]
    · subst g
      rw [wl_read]
      refine law_c12 (wA := lw_fc h na ba ca fa (nI kq) :: stw G na x) (wR := stw G fa y3 ++ (stw G ba y1 ++ stw G ca y2)) (mc := 0) (ms := 0) F hF hi1 e1 hi2 e2 (po := fun r (u : Int32 × Unit) => r = 0 ∧ u.1 = fa_X9_transmitter_3_1_r x) (ovf := fun u => vp_updL ov 0 u.1.toInt64) (wAf := fun _ => lw_fc h na ba ca fa (nI kq) :: stw G na x) (pr := fun r (_ : Unit) => r = f_X10_transmitter_1_r S 3) (npf := fun _ => nI kq) (thf := fun _ => 0) (hhf := fun _ => hh) (Sf := fun _ => S) (Pf := fun _ => P)
        (k_L_transmitter l G h 3 1 o ov _ (stw G na x) (k_X9_transmitter_3_1 l G h na (ba 0) (ca 0) fa (nI kq) x) rfl rfl (by decide) (by decide))
        (k_X10_transmitter_1 l G m b0 b1 (nI kq) th hh S P 3 3 rfl (by decide)) ⟨rfl, rfl, by decide, by decide⟩ (Nat.le_trans (Nat.le_succ k) hk) (Nat.le_trans (Nat.le_add_right n 6) hn) (fun r u r' u' h1 h2 => ?_) (fun r u r' u' h1 h2 => fin_read kk hp (Nat.le_succ k) (Nat.le_add_right n 6))
      refine ⟨h1.1.symm, fun _ => ?_⟩
      show vp_updL ov 0 u.1.toInt64 0 = r'.toInt64
      rw [vpu_at, h1.2, h2, t1]
    · subst g
      rw [wl_read]
      refine law_c12 (wA := lw_fc h na ba ca fa (nI kq) :: stw G na x) (wR := stw G fa y3 ++ (stw G ba y1 ++ stw G ca y2)) (mc := 0) (ms := 0) F hF hi1 e1 hi2 e2 (po := fun r (u : Int32 × Unit) => r = 0 ∧ u.1 = fa_X9_transmitter_3_2_r x) (ovf := fun u => vp_updL ov 0 u.1.toInt64) (wAf := fun _ => lw_fc h na ba ca fa (nI kq) :: stw G na x) (pr := fun r (_ : Unit) => r = f_X10_transmitter_2_r S 3) (npf := fun _ => nI kq) (thf := fun _ => 0) (hhf := fun _ => hh) (Sf := fun _ => S) (Pf := fun _ => P)
        (k_L_transmitter l G h 3 2 o ov _ (stw G na x) (k_X9_transmitter_3_2 l G h na (ba 0) (ca 0) fa (nI kq) x) rfl rfl (by decide) (by decide))
        (k_X10_transmitter_2 l G m b0 b1 (nI kq) th hh S P 3 3 rfl (by decide)) ⟨rfl, rfl, by decide, by decide⟩ (Nat.le_trans (Nat.le_succ k) hk) (Nat.le_trans (Nat.le_add_right n 6) hn) (fun r u r' u' h1 h2 => ?_) (fun r u r' u' h1 h2 => fin_read kk hp (Nat.le_succ k) (Nat.le_add_right n 6))
      refine ⟨h1.1.symm, fun _ => ?_⟩
      show vp_updL ov 0 u.1.toInt64 0 = r'.toInt64
      rw [vpu_at, h1.2, h2, t2]
    · subst g
      rw [wl_read]
      refine law_c12 (wA := lw_fc h na ba ca fa (nI kq) :: stw G na x) (wR := stw G fa y3 ++ (stw G ba y1 ++ stw G ca y2)) (mc := 0) (ms := 0) F hF hi1 e1 hi2 e2 (po := fun r (u : Int32 × Unit) => r = 0 ∧ u.1 = fa_X9_transmitter_3_3_r x) (ovf := fun u => vp_updL ov 0 u.1.toInt64) (wAf := fun _ => lw_fc h na ba ca fa (nI kq) :: stw G na x) (pr := fun r (_ : Unit) => r = f_X10_transmitter_3_r S 3) (npf := fun _ => nI kq) (thf := fun _ => 0) (hhf := fun _ => hh) (Sf := fun _ => S) (Pf := fun _ => P)
        (k_L_transmitter l G h 3 3 o ov _ (stw G na x) (k_X9_transmitter_3_3 l G h na (ba 0) (ca 0) fa (nI kq) x) rfl rfl (by decide) (by decide))
        (k_X10_transmitter_3 l G m b0 b1 (nI kq) th hh S P 3 3 rfl (by decide)) ⟨rfl, rfl, by decide, by decide⟩ (Nat.le_trans (Nat.le_succ k) hk) (Nat.le_trans (Nat.le_add_right n 6) hn) (fun r u r' u' h1 h2 => ?_) (fun r u r' u' h1 h2 => fin_read kk hp (Nat.le_succ k) (Nat.le_add_right n 6))
      refine ⟨h1.1.symm, fun _ => ?_⟩
      show vp_updL ov 0 u.1.toInt64 0 = r'.toInt64
      rw [vpu_at, h1.2, h2, t3]

set_option maxHeartbeats 4000000 in
set_option maxRecDepth 100000 in
theorem law_s13 {G : sw_E} {C : sw_C} {k n : Nat} {l : Launch} {b L : Nat} {xs : Nat → Int32} (F : sw_H G C cL_law RL wsL_law) (hF : LF G C l b L xs) (hst : l.stackTraces = false) {h m o : Nat} {i : Int32} {b0 b1 : Nat} {na ba ca fa : Nat → Nat} {kq : Nat} {th : Int32} {hh : Int64} {x y1 y2 y3 : XS} {S P ov : Nat → Int64} {T : Int} (hT : T < 1900000000) (hp : PX T kq x y1 y2 y3 S P) (hk : k + 1 ≤ room_1.cells) (hn : n + 6 ≤ room_1.slots) (kk : KK G C k n T h m o b0 b1 b i) :
    SW G C k n (WL G h m o b0 b1 na ba ca fa kq th hh x y1 y2 y3 S P ov) [(4, .int i), (3, .ref o), (2, .ref m), (1, .ref h), (0, .ref b)] 982 [] := by
  have hR := hp.2.1
  have hkq : kq < 4 := Nat.lt_succ_of_le hp.1
  rw [wl_field]
  refine law_c13 (wX := stw G na x) (wY := stw G fa y3 ++ (stw G ba y1 ++ stw G ca y2)) F hF (po := fun r (_ : Unit) => r = fa_X9_range_r x) (pr := fun r (_ : Unit) => r = f_X10_range_r S) (npf := fun _ => nI kq) (thf := fun _ => 0) (hhf := fun _ => hh) (Sf := fun _ => S) (Pf := fun _ => P)
    (k_X9_range l G h na (ba 0) (ca 0) fa (nI kq) x) ⟨rfl, rfl, by decide, by decide⟩ (k_X10_range l G m b0 b1 (nI kq) th hh S P) ⟨rfl, rfl, by decide, by decide⟩ (Nat.le_trans (Nat.le_succ k) hk) (Nat.le_trans (Nat.le_add_right n 6) hn) (fun r u r' u' h1 h2 => ?_) (fun r u r' u' h1 h2 => fin_field kk hp (Nat.le_succ k) (Nat.le_add_right n 6))
  rw [h1, h2]
  exact (rs_tells (hR.1 2 (by decide))).symm

set_option maxHeartbeats 4000000 in
set_option maxRecDepth 100000 in
theorem law_s14 {G : sw_E} {C : sw_C} {k n : Nat} {l : Launch} {b L : Nat} {xs : Nat → Int32} (F : sw_H G C cL_law RL wsL_law) (hF : LF G C l b L xs) (hst : l.stackTraces = false) {h m o : Nat} {i : Int32} {b0 b1 : Nat} {na ba ca fa : Nat → Nat} {kq : Nat} {th : Int32} {hh : Int64} {x y1 y2 y3 : XS} {S P ov : Nat → Int64} {T : Int} (hT : T < 1900000000) (hp : PX T kq x y1 y2 y3 S P) (hk : k + 1 ≤ room_1.cells) (hn : n + 6 ≤ room_1.slots) (kk : KK G C k n T h m o b0 b1 b i) :
    SW G C k n (WL G h m o b0 b1 na ba ca fa kq th hh x y1 y2 y3 S P ov) [(4, .int i), (3, .ref o), (2, .ref m), (1, .ref h), (0, .ref b)] 995 [] := by
  have hR := hp.2.1
  have hkq : kq < 4 := Nat.lt_succ_of_le hp.1
  rw [wl_field]
  refine law_c14 (wX := stw G na x) (wY := stw G fa y3 ++ (stw G ba y1 ++ stw G ca y2)) F hF (po := fun r (_ : Unit) => r = fa_X9_differential_r x) (pr := fun r (_ : Unit) => r = f_X10_differential_r S) (npf := fun _ => nI kq) (thf := fun _ => 0) (hhf := fun _ => hh) (Sf := fun _ => S) (Pf := fun _ => P)
    (k_X9_differential l G h na (ba 0) (ca 0) fa (nI kq) x) ⟨rfl, rfl, by decide, by decide⟩ (k_X10_differential l G m b0 b1 (nI kq) th hh S P) ⟨rfl, rfl, by decide, by decide⟩ (Nat.le_trans (Nat.le_succ k) hk) (Nat.le_trans (Nat.le_add_right n 6) hn) (fun r u r' u' h1 h2 => ?_) (fun r u r' u' h1 h2 => fin_field kk hp (Nat.le_succ k) (Nat.le_add_right n 6))
  rw [h1, h2]
  exact (rs_tells (hR.1 4 (by decide))).symm

set_option maxHeartbeats 4000000 in
set_option maxRecDepth 100000 in
theorem law_s15 {G : sw_E} {C : sw_C} {k n : Nat} {l : Launch} {b L : Nat} {xs : Nat → Int32} (F : sw_H G C cL_law RL wsL_law) (hF : LF G C l b L xs) (hst : l.stackTraces = false) {h m o : Nat} {i : Int32} {b0 b1 : Nat} {na ba ca fa : Nat → Nat} {kq : Nat} {th : Int32} {hh : Int64} {x y1 y2 y3 : XS} {S P ov : Nat → Int64} {T : Int} (hT : T < 1900000000) (hp : PX T kq x y1 y2 y3 S P) (hk : k + 1 ≤ room_1.cells) (hn : n + 6 ≤ room_1.slots) (kk : KK G C k n T h m o b0 b1 b i) :
    SW G C k n (WL G h m o b0 b1 na ba ca fa kq th hh x y1 y2 y3 S P ov) [(4, .int i), (3, .ref o), (2, .ref m), (1, .ref h), (0, .ref b)] 1008 [] := by
  have hR := hp.2.1
  have hkq : kq < 4 := Nat.lt_succ_of_le hp.1
  rw [wl_field]
  refine law_c15 (wX := stw G na x) (wY := stw G fa y3 ++ (stw G ba y1 ++ stw G ca y2)) F hF (po := fun r (_ : Unit) => r = fa_X9_density_r x) (pr := fun r (_ : Unit) => r = f_X10_density_r S) (npf := fun _ => nI kq) (thf := fun _ => 0) (hhf := fun _ => hh) (Sf := fun _ => S) (Pf := fun _ => P)
    (k_X9_density l G h na (ba 0) (ca 0) fa (nI kq) x (rs_args hR).2.2.1) ⟨rfl, rfl, by decide, by decide⟩ (k_X10_density l G m b0 b1 (nI kq) th hh S P (rs_args hR).2.2.2.2.2.2) ⟨rfl, rfl, by decide, by decide⟩ (Nat.le_trans (Nat.le_succ k) hk) (Nat.le_trans (Nat.le_add_right n 6) hn) (fun r u r' u' h1 h2 => ?_) (fun r u r' u' h1 h2 => fin_field kk hp (Nat.le_succ k) (Nat.le_add_right n 6))
  rw [h1, h2]
  exact ((rx_dens hR).1).symm

set_option maxHeartbeats 4000000 in
set_option maxRecDepth 100000 in
theorem law_s16 {G : sw_E} {C : sw_C} {k n : Nat} {l : Launch} {b L : Nat} {xs : Nat → Int32} (F : sw_H G C cL_law RL wsL_law) (hF : LF G C l b L xs) (hst : l.stackTraces = false) {h m o : Nat} {i : Int32} {b0 b1 : Nat} {na ba ca fa : Nat → Nat} {kq : Nat} {th : Int32} {hh : Int64} {x y1 y2 y3 : XS} {S P ov : Nat → Int64} {T : Int} (hT : T < 1900000000) (hp : PX T kq x y1 y2 y3 S P) (hk : k + 1 ≤ room_1.cells) (hn : n + 6 ≤ room_1.slots) (kk : KK G C k n T h m o b0 b1 b i) :
    SW G C k n (WL G h m o b0 b1 na ba ca fa kq th hh x y1 y2 y3 S P ov) [(4, .int i), (3, .ref o), (2, .ref m), (1, .ref h), (0, .ref b)] 1022 [] := by
  have hR := hp.2.1
  have hkq : kq < 4 := Nat.lt_succ_of_le hp.1
  rw [wl_field]
  refine law_c16 (wX := stw G na x) (wY := stw G fa y3 ++ (stw G ba y1 ++ stw G ca y2)) F hF (po := fun r (_ : Unit) => r = fa_X9_flow_r x) (pr := fun r (_ : Unit) => r = f_X10_flow_r S) (npf := fun _ => nI kq) (thf := fun _ => 0) (hhf := fun _ => hh) (Sf := fun _ => S) (Pf := fun _ => P)
    (k_X9_flow l G h na (ba 0) (ca 0) fa (nI kq) x) ⟨rfl, rfl, by decide, by decide⟩ (k_X10_flow l G m b0 b1 (nI kq) th hh S P) ⟨rfl, rfl, by decide, by decide⟩ (Nat.le_trans (Nat.le_succ k) hk) (Nat.le_trans (Nat.le_add_right n 6) hn) (fun r u r' u' h1 h2 => ?_) (fun r u r' u' h1 h2 => fin_field kk hp (Nat.le_succ k) (Nat.le_add_right n 6))
  rw [h1, h2]
  exact (hR.2.1 0 (by decide)).symm

set_option maxHeartbeats 4000000 in
set_option maxRecDepth 100000 in
theorem law_s17 {G : sw_E} {C : sw_C} {k n : Nat} {l : Launch} {b L : Nat} {xs : Nat → Int32} (F : sw_H G C cL_law RL wsL_law) (hF : LF G C l b L xs) (hst : l.stackTraces = false) {h m o : Nat} {i : Int32} {b0 b1 : Nat} {na ba ca fa : Nat → Nat} {kq : Nat} {th : Int32} {hh : Int64} {x y1 y2 y3 : XS} {S P ov : Nat → Int64} {T : Int} (hT : T < 1900000000) (hp : PX T kq x y1 y2 y3 S P) (hk : k + 1 ≤ room_1.cells) (hn : n + 6 ≤ room_1.slots) (kk : KK G C k n T h m o b0 b1 b i) :
    SW G C k n (WL G h m o b0 b1 na ba ca fa kq th hh x y1 y2 y3 S P ov) [(4, .int i), (3, .ref o), (2, .ref m), (1, .ref h), (0, .ref b)] 1036 [] := by
  have hR := hp.2.1
  have hkq : kq < 4 := Nat.lt_succ_of_le hp.1
  rw [wl_field]
  refine law_c17 (wX := stw G na x) (wY := stw G fa y3 ++ (stw G ba y1 ++ stw G ca y2)) F hF (po := fun r (_ : Unit) => r = fa_X9_isFlowing_r x) (pr := fun r (_ : Unit) => r = f_X10_isFlowing_r S) (npf := fun _ => nI kq) (thf := fun _ => 0) (hhf := fun _ => hh) (Sf := fun _ => S) (Pf := fun _ => P)
    (k_X9_isFlowing l G h na (ba 0) (ca 0) fa (nI kq) x (rx_xbool hR)) ⟨rfl, rfl, by decide, by decide⟩ (k_X10_isFlowing l G m b0 b1 (nI kq) th hh S P) ⟨rfl, rfl, by decide, by decide⟩ (Nat.le_trans (Nat.le_succ k) hk) (Nat.le_trans (Nat.le_add_right n 6) hn) (fun r u r' u' h1 h2 => ?_) (fun r u r' u' h1 h2 => fin_field kk hp (Nat.le_succ k) (Nat.le_add_right n 6))
  rw [h1, h2]
  exact (rs_isFlowing hR).symm

set_option maxHeartbeats 4000000 in
set_option maxRecDepth 100000 in
theorem law_s18 {G : sw_E} {C : sw_C} {k n : Nat} {l : Launch} {b L : Nat} {xs : Nat → Int32} (F : sw_H G C cL_law RL wsL_law) (hF : LF G C l b L xs) (hst : l.stackTraces = false) {h m o : Nat} {i : Int32} {a1 : Int32} (hi1 : vp_in (i + 1) L) (e1 : xs (i + 1).toNatClampNeg = a1) {b0 b1 : Nat} {na ba ca fa : Nat → Nat} {kq : Nat} {th : Int32} {hh : Int64} {x y1 y2 y3 : XS} {S P ov : Nat → Int64} {T : Int} (hT : T < 1900000000) (hp : PX T kq x y1 y2 y3 S P) (hk : k + 1 ≤ room_1.cells) (hn : n + 6 ≤ room_1.slots) (kk : KK G C k n T h m o b0 b1 b i) :
    SW G C k n (WL G h m o b0 b1 na ba ca fa kq th hh x y1 y2 y3 S P ov) [(4, .int i), (3, .ref o), (2, .ref m), (1, .ref h), (0, .ref b)] 1049 [] := by
  have hR := hp.2.1
  have hkq : kq < 4 := Nat.lt_succ_of_le hp.1
  by_cases hv : a1.toInt64 < 0 ∨ ¬ a1.toInt64 ≤ 3
  · skip
    refine law_c18 (wA := lw_fc h na ba ca fa (nI kq) :: (stw G na x ++ stw G fa y3)) (wR := stw G ba y1 ++ stw G ca y2) (mc := 1) (ms := 6) F hF hi1 e1 (po := fun r (_ : Unit) => r = 1) (ovf := fun _ => ov) (wAf := fun _ => lw_fc h na ba ca fa (nI kq) :: (stw G na x ++ stw G fa y3)) (pr := fun r (_ : Unit) => r = 0) (npf := fun _ => nI kq) (thf := fun _ => 1) (hhf := fun _ => hh) (Sf := fun _ => S) (Pf := fun _ => P)
      (kt_L_total_1 l G h a1 o ov _ (stw G na x ++ stw G fa y3) _ [] rfl (by decide) (kt_X9_total_f1 l G h a1 hst hv) rfl rfl (by decide) (by decide))
      (k_X10_total_f1 l G m b0 b1 (nI kq) th hh S P a1 (in_iff.mpr hv)) ⟨rfl, rfl, by decide, by decide⟩ hk hn (fun r u r' u' h1 h2 => ⟨h1.symm, fun z => absurd (h1.symm.trans z) (by decide)⟩) (fun r u r' u' h1 h2 => fin_same kk hp (Nat.le_refl _) (Nat.le_refl _))
  have hv4 : ¬ (a1 < 0 ∨ ¬ a1 < 4) := fun z => hv (in_iff.mp ((pz_ix pz_lt4).mpr z))
  rcases pz_four hv4 with e | e | e | e
  · subst e
    have tt : f_X10_total_0_r S = fa_X9_total_0_r x := hR.2.1 1 (by decide)
    rw [wl_read]
    refine law_c18 (wA := lw_fc h na ba ca fa (nI kq) :: stw G na x) (wR := stw G fa y3 ++ (stw G ba y1 ++ stw G ca y2)) (mc := 0) (ms := 0) F hF hi1 e1 (po := fun r (u : Int64 × Unit) => r = 0 ∧ u.1 = fa_X9_total_0_r x) (ovf := fun u => vp_updL ov 0 u.1) (wAf := fun _ => lw_fc h na ba ca fa (nI kq) :: stw G na x) (pr := fun r (_ : Unit) => r = f_X10_total_0_r S) (npf := fun _ => nI kq) (thf := fun _ => 0) (hhf := fun _ => hh) (Sf := fun _ => S) (Pf := fun _ => P)
      (k_L_total l G h 0 o ov _ (stw G na x) (k_X9_total_0 l G h na (ba 0) (ca 0) fa (nI kq) x) rfl rfl (by decide) (by decide))
      (k_X10_total_0 l G m b0 b1 (nI kq) th hh S P) ⟨rfl, rfl, by decide, by decide⟩ (Nat.le_trans (Nat.le_succ k) hk) (Nat.le_trans (Nat.le_add_right n 6) hn) (fun r u r' u' h1 h2 => ?_) (fun r u r' u' h1 h2 => fin_read kk hp (Nat.le_succ k) (Nat.le_add_right n 6))
    refine ⟨h1.1.symm, fun _ => ?_⟩
    show vp_updL ov 0 u.1 0 = r'
    rw [vpu_at, h1.2, h2, tt]
  · subst e
    have tt : f_X10_total_1_r S = fa_X9_total_1_r x := hR.2.1 2 (by decide)
    rw [wl_read]
    refine law_c18 (wA := lw_fc h na ba ca fa (nI kq) :: stw G na x) (wR := stw G fa y3 ++ (stw G ba y1 ++ stw G ca y2)) (mc := 0) (ms := 0) F hF hi1 e1 (po := fun r (u : Int64 × Unit) => r = 0 ∧ u.1 = fa_X9_total_1_r x) (ovf := fun u => vp_updL ov 0 u.1) (wAf := fun _ => lw_fc h na ba ca fa (nI kq) :: stw G na x) (pr := fun r (_ : Unit) => r = f_X10_total_1_r S) (npf := fun _ => nI kq) (thf := fun _ => 0) (hhf := fun _ => hh) (Sf := fun _ => S) (Pf := fun _ => P)
      (k_L_total l G h 1 o ov _ (stw G na x) (k_X9_total_1 l G h na (ba 0) (ca 0) fa (nI kq) x) rfl rfl (by decide) (by decide))
      (k_X10_total_1 l G m b0 b1 (nI kq) th hh S P) ⟨rfl, rfl, by decide, by decide⟩ (Nat.le_trans (Nat.le_succ k) hk) (Nat.le_trans (Nat.le_add_right n 6) hn) (fun r u r' u' h1 h2 => ?_) (fun r u r' u' h1 h2 => fin_read kk hp (Nat.le_succ k) (Nat.le_add_right n 6))
    refine ⟨h1.1.symm, fun _ => ?_⟩
    show vp_updL ov 0 u.1 0 = r'
    rw [vpu_at, h1.2, h2, tt]
  · subst e
    have tt : f_X10_total_2_r S = fa_X9_total_2_r x := hR.2.1 3 (by decide)
    rw [wl_read]
    refine law_c18 (wA := lw_fc h na ba ca fa (nI kq) :: stw G na x) (wR := stw G fa y3 ++ (stw G ba y1 ++ stw G ca y2)) (mc := 0) (ms := 0) F hF hi1 e1 (po := fun r (u : Int64 × Unit) => r = 0 ∧ u.1 = fa_X9_total_2_r x) (ovf := fun u => vp_updL ov 0 u.1) (wAf := fun _ => lw_fc h na ba ca fa (nI kq) :: stw G na x) (pr := fun r (_ : Unit) => r = f_X10_total_2_r S) (npf := fun _ => nI kq) (thf := fun _ => 0) (hhf := fun _ => hh) (Sf := fun _ => S) (Pf := fun _ => P)
      (k_L_total l G h 2 o ov _ (stw G na x) (k_X9_total_2 l G h na (ba 0) (ca 0) fa (nI kq) x) rfl rfl (by decide) (by decide))
      (k_X10_total_2 l G m b0 b1 (nI kq) th hh S P) ⟨rfl, rfl, by decide, by decide⟩ (Nat.le_trans (Nat.le_succ k) hk) (Nat.le_trans (Nat.le_add_right n 6) hn) (fun r u r' u' h1 h2 => ?_) (fun r u r' u' h1 h2 => fin_read kk hp (Nat.le_succ k) (Nat.le_add_right n 6))
    refine ⟨h1.1.symm, fun _ => ?_⟩
    show vp_updL ov 0 u.1 0 = r'
    rw [vpu_at, h1.2, h2, tt]
  · subst e
    have tt : f_X10_total_3_r S = fa_X9_total_3_r x := hR.2.1 4 (by decide)
    rw [wl_read]
    refine law_c18 (wA := lw_fc h na ba ca fa (nI kq) :: stw G na x) (wR := stw G fa y3 ++ (stw G ba y1 ++ stw G ca y2)) (mc := 0) (ms := 0) F hF hi1 e1 (po := fun r (u : Int64 × Unit) => r = 0 ∧ u.1 = fa_X9_total_3_r x) (ovf := fun u => vp_updL ov 0 u.1) (wAf := fun _ => lw_fc h na ba ca fa (nI kq) :: stw G na x) (pr := fun r (_ : Unit) => r = f_X10_total_3_r S) (npf := fun _ => nI kq) (thf := fun _ => 0) (hhf := fun _ => hh) (Sf := fun _ => S) (Pf := fun _ => P)
      (k_L_total l G h 3 o ov _ (stw G na x) (k_X9_total_3 l G h na (ba 0) (ca 0) fa (nI kq) x) rfl rfl (by decide) (by decide))
      (k_X10_total_3 l G m b0 b1 (nI kq) th hh S P) ⟨rfl, rfl, by decide, by decide⟩ (Nat.le_trans (Nat.le_succ k) hk) (Nat.le_trans (Nat.le_add_right n 6) hn) (fun r u r' u' h1 h2 => ?_) (fun r u r' u' h1 h2 => fin_read kk hp (Nat.le_succ k) (Nat.le_add_right n 6))
    refine ⟨h1.1.symm, fun _ => ?_⟩
    show vp_updL ov 0 u.1 0 = r'
    rw [vpu_at, h1.2, h2, tt]

set_option maxHeartbeats 4000000 in
set_option maxRecDepth 100000 in
theorem law_s19 {G : sw_E} {C : sw_C} {k n : Nat} {l : Launch} {b L : Nat} {xs : Nat → Int32} (F : sw_H G C cL_law RL wsL_law) (hF : LF G C l b L xs) (hst : l.stackTraces = false) {h m o : Nat} {i : Int32} {b0 b1 : Nat} {na ba ca fa : Nat → Nat} {kq : Nat} {th : Int32} {hh : Int64} {x y1 y2 y3 : XS} {S P ov : Nat → Int64} {T : Int} (hT : T < 1900000000) (hp : PX T kq x y1 y2 y3 S P) (hk : k + 1 ≤ room_1.cells) (hn : n + 6 ≤ room_1.slots) (kk : KK G C k n T h m o b0 b1 b i) :
    SW G C k n (WL G h m o b0 b1 na ba ca fa kq th hh x y1 y2 y3 S P ov) [(4, .int i), (3, .ref o), (2, .ref m), (1, .ref h), (0, .ref b)] 1104 [] := by
  have hR := hp.2.1
  have hkq : kq < 4 := Nat.lt_succ_of_le hp.1
  rw [wl_field]
  refine law_c19 (wX := stw G na x) (wY := stw G fa y3 ++ (stw G ba y1 ++ stw G ca y2)) F hF (po := fun r (_ : Unit) => r = fa_X9_valve_r x) (pr := fun r (_ : Unit) => r = f_X10_valve_r S) (npf := fun _ => nI kq) (thf := fun _ => 0) (hhf := fun _ => hh) (Sf := fun _ => S) (Pf := fun _ => P)
    (k_X9_valve l G h na (ba 0) (ca 0) fa (nI kq) x) ⟨rfl, rfl, by decide, by decide⟩ (k_X10_valve l G m b0 b1 (nI kq) th hh S P) ⟨rfl, rfl, by decide, by decide⟩ (Nat.le_trans (Nat.le_succ k) hk) (Nat.le_trans (Nat.le_add_right n 6) hn) (fun r u r' u' h1 h2 => ?_) (fun r u r' u' h1 h2 => fin_field kk hp (Nat.le_succ k) (Nat.le_add_right n 6))
  rw [h1, h2]
  exact (rs_tells (hR.1 34 (by decide))).symm

set_option maxHeartbeats 4000000 in
set_option maxRecDepth 100000 in
theorem law_s20 {G : sw_E} {C : sw_C} {k n : Nat} {l : Launch} {b L : Nat} {xs : Nat → Int32} (F : sw_H G C cL_law RL wsL_law) (hF : LF G C l b L xs) (hst : l.stackTraces = false) {h m o : Nat} {i : Int32} {a1 a2 a3 : Int32} (hi1 : vp_in (i + 1) L) (e1 : xs (i + 1).toNatClampNeg = a1) (hi2 : vp_in (i + 2) L) (e2 : xs (i + 2).toNatClampNeg = a2) (hi3 : vp_in (i + 3) L) (e3 : xs (i + 3).toNatClampNeg = a3) {b0 b1 : Nat} {na ba ca fa : Nat → Nat} {kq : Nat} {th : Int32} {hh : Int64} {x y1 y2 y3 : XS} {S P ov : Nat → Int64} {T : Int} (hT : T < 1900000000) (hp : PX T kq x y1 y2 y3 S P) (hk : k + 1 ≤ room_1.cells) (hn : n + 6 ≤ room_1.slots) (kk : KK G C k n T h m o b0 b1 b i) :
    SW G C k n (WL G h m o b0 b1 na ba ca fa kq th hh x y1 y2 y3 S P ov) [(4, .int i), (3, .ref o), (2, .ref m), (1, .ref h), (0, .ref b)] 1117 [] := by
  have hR := hp.2.1
  have hkq : kq < 4 := Nat.lt_succ_of_le hp.1
  by_cases hv : a1.toInt64 < 0 ∨ ¬ a1.toInt64 ≤ 30000
  · skip
    refine law_c20 (wA := lw_fc h na ba ca fa (nI kq) :: (stw G na x ++ stw G fa y3)) (wR := stw G ba y1 ++ stw G ca y2) (mc := 1) (ms := 6) F hF hi1 e1 hi2 e2 hi3 e3 (po := fun r (_ : Unit) => r = 1) (ovf := fun _ => ov) (wAf := fun _ => lw_fc h na ba ca fa (nI kq) :: (stw G na x ++ stw G fa y3)) (pr := fun r (_ : Unit) => r = 0) (npf := fun _ => nI kq) (thf := fun _ => 1) (hhf := fun _ => hh) (Sf := fun _ => S) (Pf := fun _ => P)
      (kt_L_flowFor_1 l G h a1 a2 a3 o ov _ (stw G na x ++ stw G fa y3) _ [] rfl (by decide) (kt_X9_flowFor_f1 l G h a1 a2 a3 hst hv) rfl rfl (by decide) (by decide))
      (k_X10_flowFor_f1 l G m b0 b1 (nI kq) th hh S P a1 a2 a3 (in_iff.mpr hv)) ⟨rfl, rfl, by decide, by decide⟩ hk hn (fun r u r' u' h1 h2 => ⟨h1.symm, fun z => absurd (h1.symm.trans z) (by decide)⟩) (fun r u r' u' h1 h2 => fin_same kk hp (Nat.le_refl _) (Nat.le_refl _))
  obtain ⟨v0, v1⟩ := pz_inV hv
  by_cases hq : a2.toInt64 < 0 ∨ ¬ a2.toInt64 ≤ 30000
  · skip
    refine law_c20 (wA := lw_fc h na ba ca fa (nI kq) :: (stw G na x ++ stw G fa y3)) (wR := stw G ba y1 ++ stw G ca y2) (mc := 1) (ms := 6) F hF hi1 e1 hi2 e2 hi3 e3 (po := fun r (_ : Unit) => r = 1) (ovf := fun _ => ov) (wAf := fun _ => lw_fc h na ba ca fa (nI kq) :: (stw G na x ++ stw G fa y3)) (pr := fun r (_ : Unit) => r = 0) (npf := fun _ => nI kq) (thf := fun _ => 1) (hhf := fun _ => hh) (Sf := fun _ => S) (Pf := fun _ => P)
      (kt_L_flowFor_1 l G h a1 a2 a3 o ov _ (stw G na x ++ stw G fa y3) _ [] rfl (by decide) (kt_X9_flowFor_f1b l G h a1 a2 a3 hst v0 v1 hq) rfl rfl (by decide) (by decide))
      (k_X10_flowFor_f1b l G m b0 b1 (nI kq) th hh S P a1 a2 a3 (in_not v0 v1) (in_iff.mpr hq)) ⟨rfl, rfl, by decide, by decide⟩ hk hn (fun r u r' u' h1 h2 => ⟨h1.symm, fun z => absurd (h1.symm.trans z) (by decide)⟩) (fun r u r' u' h1 h2 => fin_same kk hp (Nat.le_refl _) (Nat.le_refl _))
  obtain ⟨w0, w1⟩ := pz_inV hq
  by_cases hs : a3.toInt64 < (-500) ∨ ¬ a3.toInt64 ≤ 3000
  · skip
    refine law_c20 (wA := lw_fc h na ba ca fa (nI kq) :: (stw G na x ++ stw G fa y3)) (wR := stw G ba y1 ++ stw G ca y2) (mc := 1) (ms := 6) F hF hi1 e1 hi2 e2 hi3 e3 (po := fun r (_ : Unit) => r = 1) (ovf := fun _ => ov) (wAf := fun _ => lw_fc h na ba ca fa (nI kq) :: (stw G na x ++ stw G fa y3)) (pr := fun r (_ : Unit) => r = 0) (npf := fun _ => nI kq) (thf := fun _ => 1) (hhf := fun _ => hh) (Sf := fun _ => S) (Pf := fun _ => P)
      (kt_L_flowFor_1 l G h a1 a2 a3 o ov _ (stw G na x ++ stw G fa y3) _ [] rfl (by decide) (kt_X9_flowFor_f1c l G h a1 a2 a3 hst v0 v1 w0 w1 hs) rfl rfl (by decide) (by decide))
      (k_X10_flowFor_f1c l G m b0 b1 (nI kq) th hh S P a1 a2 a3 (in_not v0 v1) (in_not w0 w1) (in_iff.mpr hs)) ⟨rfl, rfl, by decide, by decide⟩ hk hn (fun r u r' u' h1 h2 => ⟨h1.symm, fun z => absurd (h1.symm.trans z) (by decide)⟩) (fun r u r' u' h1 h2 => fin_same kk hp (Nat.le_refl _) (Nat.le_refl _))
  obtain ⟨s0, s1⟩ := pz_inV hs
  obtain ⟨r0, r1, r2, r3, r4, r5, r6, r7, r8, r9⟩ := rs_flowFor hR a1 a2 a3 v0 v1 w0 w1 s0 s1
  obtain ⟨-, -, -, -, r10, -, -⟩ := rs_args hR
  rw [wl_read]
  refine law_c20 (wA := lw_fc h na ba ca fa (nI kq) :: stw G na x) (wR := stw G fa y3 ++ (stw G ba y1 ++ stw G ca y2)) (mc := 0) (ms := 0) F hF hi1 e1 hi2 e2 hi3 e3 (po := fun r (u : Int64 × Unit) => r = 0 ∧ u.1 = fa_X9_flowFor_r x a1 a2 a3) (ovf := fun u => vp_updL ov 0 u.1) (wAf := fun _ => lw_fc h na ba ca fa (nI kq) :: stw G na x) (pr := fun r (_ : Unit) => r = f_X10_flowFor_r S a1 a2 a3) (npf := fun _ => nI kq) (thf := fun _ => 0) (hhf := fun _ => hh) (Sf := fun _ => S) (Pf := fun _ => P)
    (k_L_flowFor l G h a1 a2 a3 o ov _ (stw G na x) (k_X9_flowFor l G h na (ba 0) (ca 0) fa (nI kq) x a1 a2 a3 v0 v1 w0 w1 s0 s1 r1 r2 r3 r4) rfl rfl (by decide) (by decide))
    (k_X10_flowFor l G m b0 b1 (nI kq) th hh S P a1 a2 a3 v0 v1 w0 w1 s0 s1 r10 r5 r6 r7 r8 r9) ⟨rfl, rfl, by decide, by decide⟩ (Nat.le_trans (Nat.le_succ k) hk) (Nat.le_trans (Nat.le_add_right n 6) hn) (fun r u r' u' h1 h2 => ?_) (fun r u r' u' h1 h2 => fin_read kk hp (Nat.le_succ k) (Nat.le_add_right n 6))
  refine ⟨h1.1.symm, fun _ => ?_⟩
  show vp_updL ov 0 u.1 0 = r'
  rw [vpu_at, h1.2, h2, r0]

set_option maxHeartbeats 4000000 in
set_option maxRecDepth 100000 in
theorem law_s21 {G : sw_E} {C : sw_C} {k n : Nat} {l : Launch} {b L : Nat} {xs : Nat → Int32} (F : sw_H G C cL_law RL wsL_law) (hF : LF G C l b L xs) (hst : l.stackTraces = false) {h m o : Nat} {i : Int32} {a1 a2 : Int32} (hi1 : vp_in (i + 1) L) (e1 : xs (i + 1).toNatClampNeg = a1) (hi2 : vp_in (i + 2) L) (e2 : xs (i + 2).toNatClampNeg = a2) {b0 b1 : Nat} {na ba ca fa : Nat → Nat} {kq : Nat} {th : Int32} {hh : Int64} {x y1 y2 y3 : XS} {S P ov : Nat → Int64} {T : Int} (hT : T < 1900000000) (hp : PX T kq x y1 y2 y3 S P) (hk : k + 1 ≤ room_1.cells) (hn : n + 6 ≤ room_1.slots) (kk : KK G C k n T h m o b0 b1 b i) :
    SW G C k n (WL G h m o b0 b1 na ba ca fa kq th hh x y1 y2 y3 S P ov) [(4, .int i), (3, .ref o), (2, .ref m), (1, .ref h), (0, .ref b)] 1196 [] := by
  have hR := hp.2.1
  have hkq : kq < 4 := Nat.lt_succ_of_le hp.1
  obtain ⟨a, ha⟩ : ∃ a : Int64, (a1.toInt64 <<< ((32 : Int32).toInt64 &&& 63) ||| a2.toInt64 &&& 4294967295) = a := ⟨_, rfl⟩
  by_cases hv : a < 0 ∨ ¬ a ≤ 1000000000
  · skip
    refine law_c21 (wA := lw_fc h na ba ca fa (nI kq) :: (stw G na x ++ stw G fa y3)) (wR := stw G ba y1 ++ stw G ca y2) (mc := 1) (ms := 6) F hF hi1 e1 hi2 e2 ha (po := fun r (_ : Unit) => r = 1) (ovf := fun _ => ov) (wAf := fun _ => lw_fc h na ba ca fa (nI kq) :: (stw G na x ++ stw G fa y3)) (pr := fun r (_ : Unit) => r = 0) (npf := fun _ => nI kq) (thf := fun _ => 1) (hhf := fun _ => hh) (Sf := fun _ => S) (Pf := fun _ => P)
      (kt_L_differentialFor_1 l G h a o ov _ (stw G na x ++ stw G fa y3) _ [] rfl (by decide) (kt_X9_differentialFor_f1 l G h a hst hv) rfl rfl (by decide) (by decide))
      (k_X10_differentialFor_f1 l G m b0 b1 (nI kq) th hh S P a (in_iff.mpr hv)) ⟨rfl, rfl, by decide, by decide⟩ hk hn (fun r u r' u' h1 h2 => ⟨h1.symm, fun z => absurd (h1.symm.trans z) (by decide)⟩) (fun r u r' u' h1 h2 => fin_same kk hp (Nat.le_refl _) (Nat.le_refl _))
  obtain ⟨v0, v1⟩ := pz_inV hv
  obtain ⟨r1, r2, r3, r4, r5, r6, r7⟩ := rs_args hR
  rw [wl_read]
  refine law_c21 (wA := lw_fc h na ba ca fa (nI kq) :: stw G na x) (wR := stw G fa y3 ++ (stw G ba y1 ++ stw G ca y2)) (mc := 0) (ms := 0) F hF hi1 e1 hi2 e2 ha (po := fun r (u : Int32 × Unit) => r = 0 ∧ u.1 = fdFor x a) (ovf := fun u => vp_updL ov 0 u.1.toInt64) (wAf := fun _ => lw_fc h na ba ca fa (nI kq) :: stw G na x) (pr := fun r (u : Int32) => r = mdFor S a ∧ u = 0) (npf := fun _ => nI kq) (thf := fun u => u) (hhf := fun _ => hh) (Sf := fun _ => S) (Pf := fun _ => P)
    (k_L_differentialFor l G h a o ov _ (stw G na x) (k_X9_differentialFor l G h na (ba 0) (ca 0) fa (nI kq) x a v0 v1 r3 r1 r4) rfl rfl (by decide) (by decide))
    (k_X10_differentialFor l G m b0 b1 (nI kq) th hh S P a v0 v1 r5 r2 r6 r7) ⟨rfl, rfl, by decide, by decide⟩ (Nat.le_trans (Nat.le_succ k) hk) (Nat.le_trans (Nat.le_add_right n 6) hn) (fun r u r' u' h1 h2 => ?_) (fun r u r' u' h1 h2 => fin_read kk hp (Nat.le_succ k) (Nat.le_add_right n 6))
  refine ⟨h2.2.trans h1.1.symm, fun _ => ?_⟩
  show vp_updL ov 0 u.1.toInt64 0 = r'.toInt64
  rw [vpu_at, h1.2, h2.1, rs_differentialFor hR a]

set_option maxHeartbeats 4000000 in
set_option maxRecDepth 100000 in
theorem law_s22 {G : sw_E} {C : sw_C} {k n : Nat} {l : Launch} {b L : Nat} {xs : Nat → Int32} (F : sw_H G C cL_law RL wsL_law) (hF : LF G C l b L xs) (hst : l.stackTraces = false) {h m o : Nat} {i : Int32} {b0 b1 : Nat} {na ba ca fa : Nat → Nat} {kq : Nat} {th : Int32} {hh : Int64} {x y1 y2 y3 : XS} {S P ov : Nat → Int64} {T : Int} (hT : T < 1900000000) (hp : PX T kq x y1 y2 y3 S P) (hk : k + 1 ≤ room_1.cells) (hn : n + 6 ≤ room_1.slots) (kk : KK G C k n T h m o b0 b1 b i) :
    SW G C k n (WL G h m o b0 b1 na ba ca fa kq th hh x y1 y2 y3 S P ov) [(4, .int i), (3, .ref o), (2, .ref m), (1, .ref h), (0, .ref b)] 1284 [] := by
  have hR := hp.2.1
  have hkq : kq < 4 := Nat.lt_succ_of_le hp.1
  rw [wl_field]
  refine law_c22 (wX := stw G na x) (wY := stw G fa y3 ++ (stw G ba y1 ++ stw G ca y2)) F hF (po := fun r (_ : Unit) => r = fa_X9_hours_r x) (pr := fun r (_ : Unit) => r = f_X10_hours_r S) (npf := fun _ => nI kq) (thf := fun _ => 0) (hhf := fun _ => hh) (Sf := fun _ => S) (Pf := fun _ => P)
    (k_X9_hours l G h na (ba 0) (ca 0) fa (nI kq) x) ⟨rfl, rfl, by decide, by decide⟩ (k_X10_hours l G m b0 b1 (nI kq) th hh S P) ⟨rfl, rfl, by decide, by decide⟩ (Nat.le_trans (Nat.le_succ k) hk) (Nat.le_trans (Nat.le_add_right n 6) hn) (fun r u r' u' h1 h2 => ?_) (fun r u r' u' h1 h2 => fin_field kk hp (Nat.le_succ k) (Nat.le_add_right n 6))
  rw [h1, h2]
  exact (rs_tells (rs_ringN rg0 hR.2.2.2.2.1).1).symm

set_option maxHeartbeats 4000000 in
set_option maxRecDepth 100000 in
theorem law_s23 {G : sw_E} {C : sw_C} {k n : Nat} {l : Launch} {b L : Nat} {xs : Nat → Int32} (F : sw_H G C cL_law RL wsL_law) (hF : LF G C l b L xs) (hst : l.stackTraces = false) {h m o : Nat} {i : Int32} {a1 a2 : Int32} (hi1 : vp_in (i + 1) L) (e1 : xs (i + 1).toNatClampNeg = a1) (hi2 : vp_in (i + 2) L) (e2 : xs (i + 2).toNatClampNeg = a2) {b0 b1 : Nat} {na ba ca fa : Nat → Nat} {kq : Nat} {th : Int32} {hh : Int64} {x y1 y2 y3 : XS} {S P ov : Nat → Int64} {T : Int} (hT : T < 1900000000) (hp : PX T kq x y1 y2 y3 S P) (hk : k + 1 ≤ room_1.cells) (hn : n + 6 ≤ room_1.slots) (kk : KK G C k n T h m o b0 b1 b i) :
    SW G C k n (WL G h m o b0 b1 na ba ca fa kq th hh x y1 y2 y3 S P ov) [(4, .int i), (3, .ref o), (2, .ref m), (1, .ref h), (0, .ref b)] 1297 [] := by
  have hR := hp.2.1
  have hkq : kq < 4 := Nat.lt_succ_of_le hp.1
  obtain ⟨z1, z2, z3, z4, z5⟩ := rs_ringN rg0 hR.2.2.2.2.1
  have hM : ∀ z : Int32, z < x.1 40 ↔ z.toInt64 ≤ S 63 - 1 := by
    intro z
    have e : (S 63 - 1).toInt = (x.1 40).toInt - 1 := by
      rw [Kit.i64_sub (by rw [z1, pz_t]; show _ ≤ _ - (1 : Int); omega) (by rw [z1, pz_t]; show _ - (1 : Int) < _; omega), z1, pz_t]; rfl
    rw [Int32.lt_iff_toInt_lt, Int64.le_iff_toInt_le, pz_t, e]; omega
  by_cases ht : a1 < 0 ∨ ¬ a1 < x.1 40
  · skip
    refine law_c23 (wA := lw_fc h na ba ca fa (nI kq) :: (stw G na x ++ stw G fa y3)) (wR := stw G ba y1 ++ stw G ca y2) (mc := 1) (ms := 6) F hF hi1 e1 hi2 e2 (po := fun r (_ : Unit) => r = 1) (ovf := fun _ => ov) (wAf := fun _ => lw_fc h na ba ca fa (nI kq) :: (stw G na x ++ stw G fa y3)) (pr := fun r (_ : Unit) => r = 0) (npf := fun _ => nI kq) (thf := fun _ => 1) (hhf := fun _ => hh) (Sf := fun _ => S) (Pf := fun _ => P)
      (kt_L_hour_1 l G h a1 a2 o ov _ (stw G na x ++ stw G fa y3) _ [1, 2, 16] rfl (by decide) (kt_X9_hour_f1 l G h na (ba 0) (ca 0) fa (nI kq) x a1 a2 hst ht) rfl rfl (by decide) (by decide))
      (k_X10_hour_f1 l G m b0 b1 (nI kq) th hh S P a1 a2 ((pz_ix hM).mpr ht)) ⟨rfl, rfl, by decide, by decide⟩ hk hn (fun r u r' u' h1 h2 => ⟨h1.symm, fun z => absurd (h1.symm.trans z) (by decide)⟩) (fun r u r' u' h1 h2 => fin_same kk hp (Nat.le_refl _) (Nat.le_refl _))
  by_cases hv : a2.toInt64 < 0 ∨ ¬ a2.toInt64 ≤ 6
  · skip
    refine law_c23 (wA := lw_fc h na ba ca fa (nI kq) :: (stw G na x ++ stw G fa y3)) (wR := stw G ba y1 ++ stw G ca y2) (mc := 1) (ms := 6) F hF hi1 e1 hi2 e2 (po := fun r (_ : Unit) => r = 2) (ovf := fun _ => ov) (wAf := fun _ => lw_fc h na ba ca fa (nI kq) :: (stw G na x ++ stw G fa y3)) (pr := fun r (_ : Unit) => r = 0) (npf := fun _ => nI kq) (thf := fun _ => 2) (hhf := fun _ => hh) (Sf := fun _ => S) (Pf := fun _ => P)
      (kt_L_hour_2 l G h a1 a2 o ov _ (stw G na x ++ stw G fa y3) _ [1, 2, 16] rfl (by decide) (kt_X9_hour_f2 l G h na (ba 0) (ca 0) fa (nI kq) x a1 a2 hst (pz_inN ht).1 (pz_inN ht).2 hv) rfl rfl (by decide) (by decide))
      (k_X10_hour_f2 l G m b0 b1 (nI kq) th hh S P a1 a2 (fun z => ht ((pz_ix hM).mp z)) (in_iff.mpr hv)) ⟨rfl, rfl, by decide, by decide⟩ hk hn (fun r u r' u' h1 h2 => ⟨h1.symm, fun z => absurd (h1.symm.trans z) (by decide)⟩) (fun r u r' u' h1 h2 => fin_same kk hp (Nat.le_refl _) (Nat.le_refl _))
  obtain ⟨v0, v1⟩ := pz_inV hv
  obtain ⟨t0, t1⟩ := pz_inN ht
  obtain ⟨Ni, eI, hNi⟩ := pz_nat t0
  have p0 := pz_ge (c := 0) rfl v0
  have p1 := pz_le' (c := 6) rfl v1
  have k0 : (0 : Int32).toInt = 0 := by decide
  have k1 : (6 : Int32).toInt = 6 := by decide
  obtain ⟨Nj, eJ, hNj⟩ := pz_nat (t := a2) (by rw [Int32.lt_iff_toInt_lt]; show ¬ a2.toInt < 0; omega)
  have t2 : a1.toInt < (x.1 40).toInt := by rw [← Int32.lt_iff_toInt_lt]; exact t1
  obtain ⟨g1, g2⟩ := rs_ringAt rg0 hR.2.2.2.2.1 (i := Ni) (j := Nj) (by rw [← eI]; exact t1) (by omega) (by omega)
  have gg : f_X10_hour_r S Ni Nj = fa_X9_hour_r x a1 a2 := by rw [eI, eJ]; exact g1
  have i0 : ¬ a1.toInt64 < 0 := fun z => t0 (pz_lt.mp z)
  have i1 : a1.toInt64 ≤ S 63 - 1 := (hM a1).mp t1
  rw [wl_read]
  refine law_c23 (wA := lw_fc h na ba ca fa (nI kq) :: stw G na x) (wR := stw G fa y3 ++ (stw G ba y1 ++ stw G ca y2)) (mc := 0) (ms := 0) F hF hi1 e1 hi2 e2 (po := fun r (u : Int64 × Unit) => r = 0 ∧ u.1 = fa_X9_hour_r x a1 a2) (ovf := fun u => vp_updL ov 0 u.1) (wAf := fun _ => lw_fc h na ba ca fa (nI kq) :: stw G na x) (pr := fun r (_ : Unit) => r = f_X10_hour_r S Ni Nj) (npf := fun _ => nI kq) (thf := fun _ => 0) (hhf := fun _ => hh) (Sf := fun _ => S) (Pf := fun _ => P)
    (k_L_hour l G h a1 a2 o ov _ (stw G na x) (k_X9_hour l G h na (ba 0) (ca 0) fa (nI kq) x a1 a2 t0 t1 v0 v1) rfl rfl (by decide) (by decide))
    (k_X10_hour l G m b0 b1 (nI kq) th hh S P a1 Ni a2 Nj eI g2 eJ (by omega) i0 i1 v0 v1) ⟨rfl, rfl, by decide, by decide⟩ (Nat.le_trans (Nat.le_succ k) hk) (Nat.le_trans (Nat.le_add_right n 6) hn) (fun r u r' u' h1 h2 => ?_) (fun r u r' u' h1 h2 => fin_read kk hp (Nat.le_succ k) (Nat.le_add_right n 6))
  refine ⟨h1.1.symm, fun _ => ?_⟩
  show vp_updL ov 0 u.1 0 = r'
  rw [vpu_at, h1.2, h2, gg]

set_option maxHeartbeats 4000000 in
set_option maxRecDepth 100000 in
theorem law_s24 {G : sw_E} {C : sw_C} {k n : Nat} {l : Launch} {b L : Nat} {xs : Nat → Int32} (F : sw_H G C cL_law RL wsL_law) (hF : LF G C l b L xs) (hst : l.stackTraces = false) {h m o : Nat} {i : Int32} {b0 b1 : Nat} {na ba ca fa : Nat → Nat} {kq : Nat} {th : Int32} {hh : Int64} {x y1 y2 y3 : XS} {S P ov : Nat → Int64} {T : Int} (hT : T < 1900000000) (hp : PX T kq x y1 y2 y3 S P) (hk : k + 1 ≤ room_1.cells) (hn : n + 6 ≤ room_1.slots) (kk : KK G C k n T h m o b0 b1 b i) :
    SW G C k n (WL G h m o b0 b1 na ba ca fa kq th hh x y1 y2 y3 S P ov) [(4, .int i), (3, .ref o), (2, .ref m), (1, .ref h), (0, .ref b)] 1364 [] := by
  have hR := hp.2.1
  have hkq : kq < 4 := Nat.lt_succ_of_le hp.1
  rw [wl_field]
  refine law_c24 (wX := stw G na x) (wY := stw G fa y3 ++ (stw G ba y1 ++ stw G ca y2)) F hF (po := fun r (_ : Unit) => r = fa_X9_days_r x) (pr := fun r (_ : Unit) => r = f_X10_days_r S) (npf := fun _ => nI kq) (thf := fun _ => 0) (hhf := fun _ => hh) (Sf := fun _ => S) (Pf := fun _ => P)
    (k_X9_days l G h na (ba 0) (ca 0) fa (nI kq) x) ⟨rfl, rfl, by decide, by decide⟩ (k_X10_days l G m b0 b1 (nI kq) th hh S P) ⟨rfl, rfl, by decide, by decide⟩ (Nat.le_trans (Nat.le_succ k) hk) (Nat.le_trans (Nat.le_add_right n 6) hn) (fun r u r' u' h1 h2 => ?_) (fun r u r' u' h1 h2 => fin_field kk hp (Nat.le_succ k) (Nat.le_add_right n 6))
  rw [h1, h2]
  exact (rs_tells (rs_ringN rg1 hR.2.2.2.2.2.1).1).symm

set_option maxHeartbeats 4000000 in
set_option maxRecDepth 100000 in
theorem law_s25 {G : sw_E} {C : sw_C} {k n : Nat} {l : Launch} {b L : Nat} {xs : Nat → Int32} (F : sw_H G C cL_law RL wsL_law) (hF : LF G C l b L xs) (hst : l.stackTraces = false) {h m o : Nat} {i : Int32} {a1 a2 : Int32} (hi1 : vp_in (i + 1) L) (e1 : xs (i + 1).toNatClampNeg = a1) (hi2 : vp_in (i + 2) L) (e2 : xs (i + 2).toNatClampNeg = a2) {b0 b1 : Nat} {na ba ca fa : Nat → Nat} {kq : Nat} {th : Int32} {hh : Int64} {x y1 y2 y3 : XS} {S P ov : Nat → Int64} {T : Int} (hT : T < 1900000000) (hp : PX T kq x y1 y2 y3 S P) (hk : k + 1 ≤ room_1.cells) (hn : n + 6 ≤ room_1.slots) (kk : KK G C k n T h m o b0 b1 b i) :
    SW G C k n (WL G h m o b0 b1 na ba ca fa kq th hh x y1 y2 y3 S P ov) [(4, .int i), (3, .ref o), (2, .ref m), (1, .ref h), (0, .ref b)] 1377 [] := by
  have hR := hp.2.1
  have hkq : kq < 4 := Nat.lt_succ_of_le hp.1
  obtain ⟨z1, z2, z3, z4, z5⟩ := rs_ringN rg1 hR.2.2.2.2.2.1
  have hM : ∀ z : Int32, z < x.1 42 ↔ z.toInt64 ≤ S 232 - 1 := by
    intro z
    have e : (S 232 - 1).toInt = (x.1 42).toInt - 1 := by
      rw [Kit.i64_sub (by rw [z1, pz_t]; show _ ≤ _ - (1 : Int); omega) (by rw [z1, pz_t]; show _ - (1 : Int) < _; omega), z1, pz_t]; rfl
    rw [Int32.lt_iff_toInt_lt, Int64.le_iff_toInt_le, pz_t, e]; omega
  by_cases ht : a1 < 0 ∨ ¬ a1 < x.1 42
  · skip
    refine law_c25 (wA := lw_fc h na ba ca fa (nI kq) :: (stw G na x ++ stw G fa y3)) (wR := stw G ba y1 ++ stw G ca y2) (mc := 1) (ms := 6) F hF hi1 e1 hi2 e2 (po := fun r (_ : Unit) => r = 1) (ovf := fun _ => ov) (wAf := fun _ => lw_fc h na ba ca fa (nI kq) :: (stw G na x ++ stw G fa y3)) (pr := fun r (_ : Unit) => r = 0) (npf := fun _ => nI kq) (thf := fun _ => 1) (hhf := fun _ => hh) (Sf := fun _ => S) (Pf := fun _ => P)
      (kt_L_day_1 l G h a1 a2 o ov _ (stw G na x ++ stw G fa y3) _ [1, 2, 18] rfl (by decide) (kt_X9_day_f1 l G h na (ba 0) (ca 0) fa (nI kq) x a1 a2 hst ht) rfl rfl (by decide) (by decide))
      (k_X10_day_f1 l G m b0 b1 (nI kq) th hh S P a1 a2 ((pz_ix hM).mpr ht)) ⟨rfl, rfl, by decide, by decide⟩ hk hn (fun r u r' u' h1 h2 => ⟨h1.symm, fun z => absurd (h1.symm.trans z) (by decide)⟩) (fun r u r' u' h1 h2 => fin_same kk hp (Nat.le_refl _) (Nat.le_refl _))
  by_cases hv : a2.toInt64 < 0 ∨ ¬ a2.toInt64 ≤ 3
  · skip
    refine law_c25 (wA := lw_fc h na ba ca fa (nI kq) :: (stw G na x ++ stw G fa y3)) (wR := stw G ba y1 ++ stw G ca y2) (mc := 1) (ms := 6) F hF hi1 e1 hi2 e2 (po := fun r (_ : Unit) => r = 2) (ovf := fun _ => ov) (wAf := fun _ => lw_fc h na ba ca fa (nI kq) :: (stw G na x ++ stw G fa y3)) (pr := fun r (_ : Unit) => r = 0) (npf := fun _ => nI kq) (thf := fun _ => 2) (hhf := fun _ => hh) (Sf := fun _ => S) (Pf := fun _ => P)
      (kt_L_day_2 l G h a1 a2 o ov _ (stw G na x ++ stw G fa y3) _ [1, 2, 18] rfl (by decide) (kt_X9_day_f2 l G h na (ba 0) (ca 0) fa (nI kq) x a1 a2 hst (pz_inN ht).1 (pz_inN ht).2 hv) rfl rfl (by decide) (by decide))
      (k_X10_day_f2 l G m b0 b1 (nI kq) th hh S P a1 a2 (fun z => ht ((pz_ix hM).mp z)) (in_iff.mpr hv)) ⟨rfl, rfl, by decide, by decide⟩ hk hn (fun r u r' u' h1 h2 => ⟨h1.symm, fun z => absurd (h1.symm.trans z) (by decide)⟩) (fun r u r' u' h1 h2 => fin_same kk hp (Nat.le_refl _) (Nat.le_refl _))
  obtain ⟨v0, v1⟩ := pz_inV hv
  obtain ⟨t0, t1⟩ := pz_inN ht
  obtain ⟨Ni, eI, hNi⟩ := pz_nat t0
  have p0 := pz_ge (c := 0) rfl v0
  have p1 := pz_le' (c := 3) rfl v1
  have k0 : (0 : Int32).toInt = 0 := by decide
  have k1 : (3 : Int32).toInt = 3 := by decide
  obtain ⟨Nj, eJ, hNj⟩ := pz_nat (t := a2) (by rw [Int32.lt_iff_toInt_lt]; show ¬ a2.toInt < 0; omega)
  have t2 : a1.toInt < (x.1 42).toInt := by rw [← Int32.lt_iff_toInt_lt]; exact t1
  obtain ⟨g1, g2⟩ := rs_ringAt rg1 hR.2.2.2.2.2.1 (i := Ni) (j := Nj) (by rw [← eI]; exact t1) (by omega) (by omega)
  have gg : f_X10_day_r S Ni Nj = fa_X9_day_r x a1 a2 := by rw [eI, eJ]; exact g1
  have i0 : ¬ a1.toInt64 < 0 := fun z => t0 (pz_lt.mp z)
  have i1 : a1.toInt64 ≤ S 232 - 1 := (hM a1).mp t1
  rw [wl_read]
  refine law_c25 (wA := lw_fc h na ba ca fa (nI kq) :: stw G na x) (wR := stw G fa y3 ++ (stw G ba y1 ++ stw G ca y2)) (mc := 0) (ms := 0) F hF hi1 e1 hi2 e2 (po := fun r (u : Int64 × Unit) => r = 0 ∧ u.1 = fa_X9_day_r x a1 a2) (ovf := fun u => vp_updL ov 0 u.1) (wAf := fun _ => lw_fc h na ba ca fa (nI kq) :: stw G na x) (pr := fun r (_ : Unit) => r = f_X10_day_r S Ni Nj) (npf := fun _ => nI kq) (thf := fun _ => 0) (hhf := fun _ => hh) (Sf := fun _ => S) (Pf := fun _ => P)
    (k_L_day l G h a1 a2 o ov _ (stw G na x) (k_X9_day l G h na (ba 0) (ca 0) fa (nI kq) x a1 a2 t0 t1 v0 v1) rfl rfl (by decide) (by decide))
    (k_X10_day l G m b0 b1 (nI kq) th hh S P a1 Ni a2 Nj eI g2 eJ (by omega) i0 i1 v0 v1) ⟨rfl, rfl, by decide, by decide⟩ (Nat.le_trans (Nat.le_succ k) hk) (Nat.le_trans (Nat.le_add_right n 6) hn) (fun r u r' u' h1 h2 => ?_) (fun r u r' u' h1 h2 => fin_read kk hp (Nat.le_succ k) (Nat.le_add_right n 6))
  refine ⟨h1.1.symm, fun _ => ?_⟩
  show vp_updL ov 0 u.1 0 = r'
  rw [vpu_at, h1.2, h2, gg]

set_option maxHeartbeats 4000000 in
set_option maxRecDepth 100000 in
theorem law_s26 {G : sw_E} {C : sw_C} {k n : Nat} {l : Launch} {b L : Nat} {xs : Nat → Int32} (F : sw_H G C cL_law RL wsL_law) (hF : LF G C l b L xs) (hst : l.stackTraces = false) {h m o : Nat} {i : Int32} {b0 b1 : Nat} {na ba ca fa : Nat → Nat} {kq : Nat} {th : Int32} {hh : Int64} {x y1 y2 y3 : XS} {S P ov : Nat → Int64} {T : Int} (hT : T < 1900000000) (hp : PX T kq x y1 y2 y3 S P) (hk : k + 1 ≤ room_1.cells) (hn : n + 6 ≤ room_1.slots) (kk : KK G C k n T h m o b0 b1 b i) :
    SW G C k n (WL G h m o b0 b1 na ba ca fa kq th hh x y1 y2 y3 S P ov) [(4, .int i), (3, .ref o), (2, .ref m), (1, .ref h), (0, .ref b)] 1444 [] := by
  have hR := hp.2.1
  have hkq : kq < 4 := Nat.lt_succ_of_le hp.1
  rw [wl_field]
  refine law_c26 (wX := stw G na x) (wY := stw G fa y3 ++ (stw G ba y1 ++ stw G ca y2)) F hF (po := fun r (_ : Unit) => r = fa_X9_events_r x) (pr := fun r (_ : Unit) => r = f_X10_events_r S) (npf := fun _ => nI kq) (thf := fun _ => 0) (hhf := fun _ => hh) (Sf := fun _ => S) (Pf := fun _ => P)
    (k_X9_events l G h na (ba 0) (ca 0) fa (nI kq) x) ⟨rfl, rfl, by decide, by decide⟩ (k_X10_events l G m b0 b1 (nI kq) th hh S P) ⟨rfl, rfl, by decide, by decide⟩ (Nat.le_trans (Nat.le_succ k) hk) (Nat.le_trans (Nat.le_add_right n 6) hn) (fun r u r' u' h1 h2 => ?_) (fun r u r' u' h1 h2 => fin_field kk hp (Nat.le_succ k) (Nat.le_add_right n 6))
  rw [h1, h2]
  exact (rs_tells (rs_ringN rg2 hR.2.2.2.2.2.2).1).symm

set_option maxHeartbeats 4000000 in
set_option maxRecDepth 100000 in
theorem law_s27 {G : sw_E} {C : sw_C} {k n : Nat} {l : Launch} {b L : Nat} {xs : Nat → Int32} (F : sw_H G C cL_law RL wsL_law) (hF : LF G C l b L xs) (hst : l.stackTraces = false) {h m o : Nat} {i : Int32} {a1 a2 : Int32} (hi1 : vp_in (i + 1) L) (e1 : xs (i + 1).toNatClampNeg = a1) (hi2 : vp_in (i + 2) L) (e2 : xs (i + 2).toNatClampNeg = a2) {b0 b1 : Nat} {na ba ca fa : Nat → Nat} {kq : Nat} {th : Int32} {hh : Int64} {x y1 y2 y3 : XS} {S P ov : Nat → Int64} {T : Int} (hT : T < 1900000000) (hp : PX T kq x y1 y2 y3 S P) (hk : k + 1 ≤ room_1.cells) (hn : n + 6 ≤ room_1.slots) (kk : KK G C k n T h m o b0 b1 b i) :
    SW G C k n (WL G h m o b0 b1 na ba ca fa kq th hh x y1 y2 y3 S P ov) [(4, .int i), (3, .ref o), (2, .ref m), (1, .ref h), (0, .ref b)] 1457 [] := by
  have hR := hp.2.1
  have hkq : kq < 4 := Nat.lt_succ_of_le hp.1
  obtain ⟨z1, z2, z3, z4, z5⟩ := rs_ringN rg2 hR.2.2.2.2.2.2
  have hM : ∀ z : Int32, z < x.1 44 ↔ z.toInt64 ≤ S 253 - 1 := by
    intro z
    have e : (S 253 - 1).toInt = (x.1 44).toInt - 1 := by
      rw [Kit.i64_sub (by rw [z1, pz_t]; show _ ≤ _ - (1 : Int); omega) (by rw [z1, pz_t]; show _ - (1 : Int) < _; omega), z1, pz_t]; rfl
    rw [Int32.lt_iff_toInt_lt, Int64.le_iff_toInt_le, pz_t, e]; omega
  by_cases ht : a1 < 0 ∨ ¬ a1 < x.1 44
  · skip
    refine law_c27 (wA := lw_fc h na ba ca fa (nI kq) :: (stw G na x ++ stw G fa y3)) (wR := stw G ba y1 ++ stw G ca y2) (mc := 1) (ms := 6) F hF hi1 e1 hi2 e2 (po := fun r (_ : Unit) => r = 1) (ovf := fun _ => ov) (wAf := fun _ => lw_fc h na ba ca fa (nI kq) :: (stw G na x ++ stw G fa y3)) (pr := fun r (_ : Unit) => r = 0) (npf := fun _ => nI kq) (thf := fun _ => 1) (hhf := fun _ => hh) (Sf := fun _ => S) (Pf := fun _ => P)
      (kt_L_event_1 l G h a1 a2 o ov _ (stw G na x ++ stw G fa y3) _ [1, 2, 20] rfl (by decide) (kt_X9_event_f1 l G h na (ba 0) (ca 0) fa (nI kq) x a1 a2 hst ht) rfl rfl (by decide) (by decide))
      (k_X10_event_f1 l G m b0 b1 (nI kq) th hh S P a1 a2 ((pz_ix hM).mpr ht)) ⟨rfl, rfl, by decide, by decide⟩ hk hn (fun r u r' u' h1 h2 => ⟨h1.symm, fun z => absurd (h1.symm.trans z) (by decide)⟩) (fun r u r' u' h1 h2 => fin_same kk hp (Nat.le_refl _) (Nat.le_refl _))
  by_cases hv : a2.toInt64 < 0 ∨ ¬ a2.toInt64 ≤ 2
  · skip
    refine law_c27 (wA := lw_fc h na ba ca fa (nI kq) :: (stw G na x ++ stw G fa y3)) (wR := stw G ba y1 ++ stw G ca y2) (mc := 1) (ms := 6) F hF hi1 e1 hi2 e2 (po := fun r (_ : Unit) => r = 2) (ovf := fun _ => ov) (wAf := fun _ => lw_fc h na ba ca fa (nI kq) :: (stw G na x ++ stw G fa y3)) (pr := fun r (_ : Unit) => r = 0) (npf := fun _ => nI kq) (thf := fun _ => 2) (hhf := fun _ => hh) (Sf := fun _ => S) (Pf := fun _ => P)
      (kt_L_event_2 l G h a1 a2 o ov _ (stw G na x ++ stw G fa y3) _ [1, 2, 20] rfl (by decide) (kt_X9_event_f2 l G h na (ba 0) (ca 0) fa (nI kq) x a1 a2 hst (pz_inN ht).1 (pz_inN ht).2 hv) rfl rfl (by decide) (by decide))
      (k_X10_event_f2 l G m b0 b1 (nI kq) th hh S P a1 a2 (fun z => ht ((pz_ix hM).mp z)) (in_iff.mpr hv)) ⟨rfl, rfl, by decide, by decide⟩ hk hn (fun r u r' u' h1 h2 => ⟨h1.symm, fun z => absurd (h1.symm.trans z) (by decide)⟩) (fun r u r' u' h1 h2 => fin_same kk hp (Nat.le_refl _) (Nat.le_refl _))
  obtain ⟨v0, v1⟩ := pz_inV hv
  obtain ⟨t0, t1⟩ := pz_inN ht
  obtain ⟨Ni, eI, hNi⟩ := pz_nat t0
  have p0 := pz_ge (c := 0) rfl v0
  have p1 := pz_le' (c := 2) rfl v1
  have k0 : (0 : Int32).toInt = 0 := by decide
  have k1 : (2 : Int32).toInt = 2 := by decide
  obtain ⟨Nj, eJ, hNj⟩ := pz_nat (t := a2) (by rw [Int32.lt_iff_toInt_lt]; show ¬ a2.toInt < 0; omega)
  have t2 : a1.toInt < (x.1 44).toInt := by rw [← Int32.lt_iff_toInt_lt]; exact t1
  obtain ⟨g1, g2⟩ := rs_ringAt rg2 hR.2.2.2.2.2.2 (i := Ni) (j := Nj) (by rw [← eI]; exact t1) (by omega) (by omega)
  have gg : f_X10_event_r S Ni Nj = fa_X9_event_r x a1 a2 := by rw [eI, eJ]; exact g1
  have i0 : ¬ a1.toInt64 < 0 := fun z => t0 (pz_lt.mp z)
  have i1 : a1.toInt64 ≤ S 253 - 1 := (hM a1).mp t1
  rw [wl_read]
  refine law_c27 (wA := lw_fc h na ba ca fa (nI kq) :: stw G na x) (wR := stw G fa y3 ++ (stw G ba y1 ++ stw G ca y2)) (mc := 0) (ms := 0) F hF hi1 e1 hi2 e2 (po := fun r (u : Int64 × Unit) => r = 0 ∧ u.1 = fa_X9_event_r x a1 a2) (ovf := fun u => vp_updL ov 0 u.1) (wAf := fun _ => lw_fc h na ba ca fa (nI kq) :: stw G na x) (pr := fun r (_ : Unit) => r = f_X10_event_r S Ni Nj) (npf := fun _ => nI kq) (thf := fun _ => 0) (hhf := fun _ => hh) (Sf := fun _ => S) (Pf := fun _ => P)
    (k_L_event l G h a1 a2 o ov _ (stw G na x) (k_X9_event l G h na (ba 0) (ca 0) fa (nI kq) x a1 a2 t0 t1 v0 v1) rfl rfl (by decide) (by decide))
    (k_X10_event l G m b0 b1 (nI kq) th hh S P a1 Ni a2 Nj eI g2 eJ (by omega) i0 i1 v0 v1) ⟨rfl, rfl, by decide, by decide⟩ (Nat.le_trans (Nat.le_succ k) hk) (Nat.le_trans (Nat.le_add_right n 6) hn) (fun r u r' u' h1 h2 => ?_) (fun r u r' u' h1 h2 => fin_read kk hp (Nat.le_succ k) (Nat.le_add_right n 6))
  refine ⟨h1.1.symm, fun _ => ?_⟩
  show vp_updL ov 0 u.1 0 = r'
  rw [vpu_at, h1.2, h2, gg]

set_option maxHeartbeats 4000000 in
set_option maxRecDepth 100000 in
theorem law_s28 {G : sw_E} {C : sw_C} {k n : Nat} {l : Launch} {b L : Nat} {xs : Nat → Int32} (F : sw_H G C cL_law RL wsL_law) (hF : LF G C l b L xs) (hst : l.stackTraces = false) {h m o : Nat} {i : Int32} {b0 b1 : Nat} {na ba ca fa : Nat → Nat} {kq : Nat} {th : Int32} {hh : Int64} {x y1 y2 y3 : XS} {S P ov : Nat → Int64} {T : Int} (hT : T < 1900000000) (hp : PX T kq x y1 y2 y3 S P) (hk : k + 1 ≤ room_1.cells) (hn : n + 6 ≤ room_1.slots) (kk : KK G C k n T h m o b0 b1 b i) :
    SW G C k n (WL G h m o b0 b1 na ba ca fa kq th hh x y1 y2 y3 S P ov) [(4, .int i), (3, .ref o), (2, .ref m), (1, .ref h), (0, .ref b)] 1524 [] := by
  have hR := hp.2.1
  have hkq : kq < 4 := Nat.lt_succ_of_le hp.1
  rcases Nat.eq_zero_or_pos kq with e | e
  · subst e
    refine law_c28 (wA := lw_fc h na ba ca fa (nI 0) :: (stw G na x ++ stw G fa y3)) (wR := stw G ba y1 ++ stw G ca y2) (mc := 1) (ms := 6) F hF  (po := fun r (_ : Unit) => r = 1) (ovf := fun _ => ov) (wAf := fun _ => lw_fc h na ba ca fa (nI 0) :: (stw G na x ++ stw G fa y3)) (pr := fun r (_ : Unit) => r = 0) (npf := fun _ => nI 0) (thf := fun _ => 1) (hhf := fun _ => hh) (Sf := fun _ => S) (Pf := fun _ => P)
      (kt_L_undo_1 l G h  o ov _ (stw G na x ++ stw G fa y3) _ [1] rfl (by decide) (kt_X9_undo_f1 l G h (na 0) (ba 0) (ca 0) (fa 0) (nI 0) hst (by decide)) rfl rfl (by decide) (by decide))
      (k_X10_undo_f1 l G m b0 b1 (nI 0) th hh S P rfl) ⟨rfl, rfl, by decide, by decide⟩ hk hn (fun r u r' u' h1 h2 => ⟨h1.symm, fun z => absurd (h1.symm.trans z) (by decide)⟩) (fun r u r' u' h1 h2 => fin_same kk hp (Nat.le_refl _) (Nat.le_refl _))
  obtain ⟨kp, rfl⟩ : ∃ kp, kq = kp + 1 := ⟨kq - 1, by omega⟩
  have hs : ¬ nI (kp + 1) ≤ 0 := by rw [show (0 : Int32) = nI 0 from rfl, pn_le (by omega) (by omega)]; omega
  have hv : f_X9_undo_o0_4 (nI (kp + 1)) = nI kp := by unfold f_X9_undo_o0_4; exact pn_sub (a := kp + 1) (b := 1) (by omega) (by omega)
  have hw : f_X9_undo_r (nI (kp + 1)) = nI kp := hv
  rw [wl_undo]
  refine law_c28 (wA := [lw_fc h na ba ca fa (nI (kp + 1))]) (wR := stw G na x ++ (stw G fa y3 ++ (stw G ba y1 ++ stw G ca y2))) (mc := 0) (ms := 0) F hF (po := fun r (u : Int32 × Int32) => r = 0 ∧ (u.1 = f_X9_undo_r (nI (kp + 1)) ∧ u.2 = f_X9_undo_o0_4 (nI (kp + 1)))) (ovf := fun u => vp_updL ov 0 u.1.toInt64) (wAf := fun u => [(h, .inr (9, [.ref (ba 0), .ref (ca 0), .ref (fa 0), .ref (na 0), .int u.2]))]) (S2 := Int32 × Int32 × (Nat → Int64)) (npf := fun u => u.1) (thf := fun u => u.2.1) (hhf := fun _ => hh) (Sf := fun u => u.2.2) (Pf := fun _ => P)
    (k_L_undo l G h o ov _ [] (k_X9_undo l G h (na 0) (ba 0) (ca 0) (fa 0) (nI (kp + 1)) hs) rfl rfl (by decide) (by decide))
    (k_X10_undo l G m b0 b1 (nI (kp + 1)) th hh S P kp rfl (by omega)) ⟨rfl, rfl, by decide, by decide⟩ (Nat.le_trans (Nat.le_succ k) hk) (Nat.le_trans (Nat.le_add_right n 6) hn) (fun r u r' u' h1 h2 => ?_) (fun r u r' u' h1 h2 => ?_)
  · refine ⟨h2.2.2.1.trans h1.1.symm, fun _ => ?_⟩
    show vp_updL ov 0 u.1.toInt64 0 = r'.toInt64
    rw [vpu_at, h1.2.1, h2.1, hw]
  · obtain ⟨v, w⟩ := u
    obtain ⟨np', th', S'⟩ := u'
    obtain ⟨g1, g2, g3, g4⟩ := h2
    obtain ⟨f1, f2, f3⟩ := h1
    have g2' : np' = nI kp := g2
    have g3' : th' = 0 := g3
    have g4' : S' = md_u (344 * kp) 344 S P := g4
    have f3' : w = nI kp := f3.trans hv
    subst g2'; subst g3'; subst g4'; subst f3'
    exact fin_undo kk hp (Nat.le_succ k) (Nat.le_add_right n 6)

set_option maxHeartbeats 4000000 in
set_option maxRecDepth 100000 in
theorem law_s29 {G : sw_E} {C : sw_C} {k n : Nat} {l : Launch} {b L : Nat} {xs : Nat → Int32} (F : sw_H G C cL_law RL wsL_law) (hF : LF G C l b L xs) (hst : l.stackTraces = false) {h m o : Nat} {i : Int32} {b0 b1 : Nat} {na ba ca fa : Nat → Nat} {kq : Nat} {th : Int32} {hh : Int64} {x y1 y2 y3 : XS} {S P ov : Nat → Int64} {T : Int} (hT : T < 1900000000) (hp : PX T kq x y1 y2 y3 S P) (hk : k + 1 ≤ room_1.cells) (hn : n + 6 ≤ room_1.slots) (kk : KK G C k n T h m o b0 b1 b i) :
    SW G C k n (WL G h m o b0 b1 na ba ca fa kq th hh x y1 y2 y3 S P ov) [(4, .int i), (3, .ref o), (2, .ref m), (1, .ref h), (0, .ref b)] 1568 [] := by
  have hR := hp.2.1
  have hkq : kq < 4 := Nat.lt_succ_of_le hp.1
  rw [wl_field]
  refine law_c29 (wX := stw G na x) (wY := stw G fa y3 ++ (stw G ba y1 ++ stw G ca y2)) F hF (po := fun r (_ : Unit) => r = fa_X9_digest_r (nI kq) x) (pr := fun r (u : Int64) => r = f_X10_digest_r (nI kq) S ∧ u = f_X10_digest_o0_4 (nI kq) S) (npf := fun _ => nI kq) (thf := fun _ => 0) (hhf := fun u => u) (Sf := fun _ => S) (Pf := fun _ => P)
    (k_X9_digest l G h na (ba 0) (ca 0) fa (nI kq) x (rs_args hR).2.2.1 (rs_ringN rg0 hR.2.2.2.2.1).2.1 (rs_ringN rg1 hR.2.2.2.2.2.1).2.1 (rs_ringN rg2 hR.2.2.2.2.2.2).2.1) ⟨rfl, rfl, by decide, by decide⟩ (k_X10_digest l G m b0 b1 (nI kq) th hh S P (rs_args hR).2.2.2.2.2.2 (rs_ringN rg0 hR.2.2.2.2.1).2.2.2 (rs_ringN rg1 hR.2.2.2.2.2.1).2.2.2 (rs_ringN rg2 hR.2.2.2.2.2.2).2.2.2) ⟨rfl, rfl, by decide, by decide⟩ (Nat.le_trans (Nat.le_succ k) hk) (Nat.le_trans (Nat.le_add_right n 6) hn) (fun r u r' u' h1 h2 => ?_) (fun r u r' u' h1 h2 => fin_field kk hp (Nat.le_succ k) (Nat.le_add_right n 6))
  rw [h1, h2.1]
  exact (rs_digest hR (nI kq)).symm

