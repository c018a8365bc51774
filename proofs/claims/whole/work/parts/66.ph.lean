theorem RX_S {T : Int} {x : XS} {S S' : Nat → Int64} (h : RX T x S) (e : ∀ j, j < 344 → S' j = S j) : RX T x S' := by
  obtain ⟨a, b, c, d, e0, e1, e2⟩ := h
  refine ⟨fun j hj => ?_, fun k hk => ?_, c, relA_congr d (fun j h2 h3 => e j (by omega)), relR_congr rg0 e0 (fun j h2 h3 => e j (by omega)), relR_congr rg1 e1 (fun j h2 h3 => e j (by omega)), relR_congr rg2 e2 (fun j h2 h3 => e j (by omega))⟩
  · rw [e _ (by have := sI_out j hj; omega)]; exact a j hj
  · rw [e _ (by have := sL_out k hk; omega)]; exact b k hk
/-- the state and the saved ones: class and reference -/
def PX (T : Int) (k : Nat) (x y1 y2 y3 : XS) (S P : Nat → Int64) : Prop :=
  k ≤ 3 ∧ RX T x S ∧ (1 ≤ k → RX T y1 (fun j => P (344 * (k - 1) + j))) ∧ (2 ≤ k → RX T y2 (fun j => P (344 * (k - 2) + j))) ∧ (3 ≤ k → RX T y3 (fun j => P (344 * (k - 3) + j)))
theorem PX_mono {T U : Int} {k : Nat} {x y1 y2 y3 : XS} {S P : Nat → Int64} (h : PX T k x y1 y2 y3 S P) (hTU : T ≤ U) : PX U k x y1 y2 y3 S P :=
  ⟨h.1, RX_mono h.2.1 hTU, fun q => RX_mono (h.2.2.1 q) hTU, fun q => RX_mono (h.2.2.2.1 q) hTU, fun q => RX_mono (h.2.2.2.2 q) hTU⟩
theorem PX_save {T U : Int} {k : Nat} {x y1 y2 y3 x' : XS} {S P S' : Nat → Int64} (h : PX T k x y1 y2 y3 S P) (hTU : T ≤ U) (h' : RX U x' S') : PX U (if k = 3 then 3 else k + 1) x' (st_copy x y3) y1 y2 S' (md_save k S P) := by
  obtain ⟨h1, h2, h3, h4, h5⟩ := h
  have hs := RX_mono (rx_copy h2 y3) hTU
  by_cases c : k = 3
  · subst c
    rw [if_pos rfl]
    refine ⟨by decide, h', fun _ => ?_, fun _ => ?_, fun _ => ?_⟩
    · refine RX_S hs (fun j hj => ?_)
      unfold md_save md_s2; rw [if_pos rfl, if_pos (by omega)]
      exact congrArg S (show 344 * (3 - 1) + j - 688 = j by omega)
    · refine RX_S (RX_mono (h3 (by decide)) hTU) (fun j hj => ?_)
      show md_save 3 S P (344 * (3 - 2) + j) = P (344 * (3 - 1) + j)
      unfold md_save md_s2 md_s1; rw [if_pos rfl, if_neg (by omega), if_pos (by omega)]; congr 1; omega
    · refine RX_S (RX_mono (h4 (by decide)) hTU) (fun j hj => ?_)
      show md_save 3 S P (344 * (3 - 3) + j) = P (344 * (3 - 2) + j)
      unfold md_save md_s2 md_s1; rw [if_pos rfl, if_neg (by omega), if_pos (by omega)]; congr 1; omega
  · rw [if_neg c]
    have old : ∀ i j, i < k → j < 344 → md_save k S P (344 * i + j) = P (344 * i + j) := by
      intro i j hi hj
      unfold md_save md_s2; rw [if_neg c, if_neg (by omega)]
    refine ⟨by omega, h', fun _ => ?_, fun q => ?_, fun q => ?_⟩
    · refine RX_S hs (fun j hj => ?_)
      show md_save k S P (344 * (k + 1 - 1) + j) = S j
      unfold md_save md_s2; rw [if_neg c, if_pos (by omega)]
      exact congrArg S (show 344 * (k + 1 - 1) + j - 344 * k = j by omega)
    · refine RX_S (RX_mono (h3 (by omega)) hTU) (fun j hj => ?_)
      show md_save k S P (344 * (k + 1 - 2) + j) = P (344 * (k - 1) + j)
      rw [old _ j (by omega) hj]; congr 1
    · refine RX_S (RX_mono (h4 (by omega)) hTU) (fun j hj => ?_)
      show md_save k S P (344 * (k + 1 - 3) + j) = P (344 * (k - 2) + j)
      rw [old _ j (by omega) hj]; congr 1
theorem PX_sv {k : Nat} (h : k ≤ 3) : f_save_sv (nI k) = nI (if k = 3 then 3 else k + 1) := by
  match k, h with
  | 0, _ => decide
  | 1, _ => decide
  | 2, _ => decide
  | 3, _ => decide
  | n + 4, h => exact absurd h (by omega)
theorem PX_undo {T : Int} {k : Nat} {x y1 y2 y3 : XS} {S P : Nat → Int64} (h : PX T (k + 1) x y1 y2 y3 S P) : PX T k y1 y2 y3 x (md_u (344 * k) 344 S P) P := by
  obtain ⟨h1, h2, h3, h4, h5⟩ := h
  refine ⟨by omega, ?_, fun q => ?_, fun q => ?_, fun q => absurd q (by omega)⟩
  · refine RX_S (h3 (by omega)) (fun j hj => ?_)
    show md_u (344 * k) 344 S P j = P (344 * (k + 1 - 1) + j)
    unfold md_u; rw [if_pos hj]; rfl
  · exact RX_S (h4 (by omega)) (fun j hj => by show P (344 * (k - 1) + j) = P (344 * (k + 1 - 2) + j); congr 1)
  · exact RX_S (h5 (by omega)) (fun j hj => by show P (344 * (k - 2) + j) = P (344 * (k + 1 - 3) + j); congr 1)
/-- tables -/
def xA (x : XS) (j : Nat) (v : Int32) : XS := (x.1, x.2.1, updA x.2.2.1 0 (upd (x.2.2.1 0) j v), x.2.2.2)
def xF (x : XS) (j : Nat) (v : Int32) : XS := (x.1, x.2.1, updA x.2.2.1 1 (upd (x.2.2.1 1) j v), x.2.2.2)
theorem ua_at (f : Nat → Nat → Int32) (k : Nat) (v : Nat → Int32) : updA f k v k = v := by unfold updA; rw [if_pos rfl]
theorem ua_ne (f : Nat → Nat → Int32) {k j : Nat} (v : Nat → Int32) (h : ¬ j = k) : updA f k v j = f j := by unfold updA; rw [if_neg h]
theorem RX_A {T : Int} {x : XS} {S : Nat → Int64} (h : RX T x S) (i : Nat) (hi : i < 6) (v : Int32) (h0 : 1 ≤ v.toInt) (h1 : v.toInt ≤ 20000) : RX T (xA x i v) (vp_updL S (26 + i) v.toInt64) := by
  obtain ⟨a, b, c, ⟨d1, d2, d3, d4⟩, e0, e1, e2⟩ := h
  refine ⟨fun j hj => ?_, fun k hk => ?_, c, ⟨fun j hj => ?_, fun j hj => ?_, fun j hj => ?_, fun j hj => ?_⟩, relR_congr rg0 e0 (fun j h2 h3 => vpu_ne _ _ (by omega)), relR_congr rg1 e1 (fun j h2 h3 => vpu_ne _ _ (by omega)), relR_congr rg2 e2 (fun j h2 h3 => vpu_ne _ _ (by omega))⟩
  · rw [vpu_ne _ _ (by have := sI_out j hj; omega)]; exact a j hj
  · rw [vpu_ne _ _ (by have := sL_out k hk; omega)]; exact b k hk
  · show _ = (updA x.2.2.1 0 (upd (x.2.2.1 0) i v) 0 j).toInt64
    rw [ua_at]
    by_cases z : j = i
    · subst z; rw [vpu_at, upd_at]
    · rw [vpu_ne _ _ (by omega), upd_ne _ _ z]; exact d1 j hj
  · show 1 ≤ (updA x.2.2.1 0 (upd (x.2.2.1 0) i v) 0 j).toInt ∧ (updA x.2.2.1 0 (upd (x.2.2.1 0) i v) 0 j).toInt ≤ 20000
    rw [ua_at]
    by_cases z : j = i
    · subst z; rw [upd_at]; exact ⟨h0, h1⟩
    · rw [upd_ne _ _ z]; exact d2 j hj
  · show _ = (updA x.2.2.1 0 (upd (x.2.2.1 0) i v) 1 j).toInt64
    rw [ua_ne _ _ (by decide), vpu_ne _ _ (by omega)]; exact d3 j hj
  · show 9000 ≤ (updA x.2.2.1 0 (upd (x.2.2.1 0) i v) 1 j).toInt ∧ (updA x.2.2.1 0 (upd (x.2.2.1 0) i v) 1 j).toInt ≤ 11000
    rw [ua_ne _ _ (by decide)]; exact d4 j hj
theorem RX_F {T : Int} {x : XS} {S : Nat → Int64} (h : RX T x S) (i : Nat) (hi : i < 5) (v : Int32) (h0 : 9000 ≤ v.toInt) (h1 : v.toInt ≤ 11000) : RX T (xF x i v) (vp_updL S (32 + i) v.toInt64) := by
  obtain ⟨a, b, c, ⟨d1, d2, d3, d4⟩, e0, e1, e2⟩ := h
  refine ⟨fun j hj => ?_, fun k hk => ?_, c, ⟨fun j hj => ?_, fun j hj => ?_, fun j hj => ?_, fun j hj => ?_⟩, relR_congr rg0 e0 (fun j h2 h3 => vpu_ne _ _ (by omega)), relR_congr rg1 e1 (fun j h2 h3 => vpu_ne _ _ (by omega)), relR_congr rg2 e2 (fun j h2 h3 => vpu_ne _ _ (by omega))⟩
  · rw [vpu_ne _ _ (by have := sI_out j hj; omega)]; exact a j hj
  · rw [vpu_ne _ _ (by have := sL_out k hk; omega)]; exact b k hk
  · show _ = (updA x.2.2.1 1 (upd (x.2.2.1 1) i v) 0 j).toInt64
    rw [ua_ne _ _ (by decide), vpu_ne _ _ (by omega)]; exact d1 j hj
  · show 1 ≤ (updA x.2.2.1 1 (upd (x.2.2.1 1) i v) 0 j).toInt ∧ (updA x.2.2.1 1 (upd (x.2.2.1 1) i v) 0 j).toInt ≤ 20000
    rw [ua_ne _ _ (by decide)]; exact d2 j hj
  · show _ = (updA x.2.2.1 1 (upd (x.2.2.1 1) i v) 1 j).toInt64
    rw [ua_at]
    by_cases z : j = i
    · subst z; rw [vpu_at, upd_at]
    · rw [vpu_ne _ _ (by omega), upd_ne _ _ z]; exact d3 j hj
  · show 9000 ≤ (updA x.2.2.1 1 (upd (x.2.2.1 1) i v) 1 j).toInt ∧ (updA x.2.2.1 1 (upd (x.2.2.1 1) i v) 1 j).toInt ≤ 11000
    rw [ua_at]
    by_cases z : j = i
    · subst z; rw [upd_at]; exact ⟨h0, h1⟩
    · rw [upd_ne _ _ z]; exact d4 j hj
theorem pz_ge {p : Int32} {c : Int32} {k : Int64} (hk : c.toInt64 = k) (h : ¬ p.toInt64 < k) : c.toInt ≤ p.toInt := by
  rw [← hk, pz_lt, Int32.lt_iff_toInt_lt] at h; omega
theorem pz_le' {p : Int32} {c : Int32} {k : Int64} (hk : c.toInt64 = k) (h : p.toInt64 ≤ k) : p.toInt ≤ c.toInt := by
  rw [← hk, pz_le, Int32.le_iff_toInt_le] at h; exact h
theorem rs_setSpan_0 {T : Int} {x : XS} {S : Nat → Int64} (h : RX T x S) (p : Int32) (h0 : ¬ p.toInt64 < 100) (h1 : p.toInt64 ≤ 30000) : RX T (sa_X9_setSpan_0 x p) (f_X10_setSpan_o1 S 0 p) ∧ f_X10_setSpan_r S 0 = fa_X9_setSpan_0_r x := by
  have g0 := pz_ge (c := 100) rfl h0
  have g1 := pz_le' (c := 30000) rfl h1
  have k0 : (100 : Int32).toInt = 100 := by decide
  have k1 : (30000 : Int32).toInt = 30000 := by decide
  have hs : S 6 = (x.1 5).toInt64 := h.1 5 (by decide)
  refine ⟨RX_log (RX_int h 5 (by decide) p p.toInt64 6 rfl rfl (by show (100 : Int) ≤ _; omega) (by show _ ≤ (30000 : Int); omega)) 5 ((0 : Int32).toInt64), ?_⟩
  show (S 6).toInt32 = x.1 5
  rw [hs, pz_back]
theorem rs_setDamping_0 {T : Int} {x : XS} {S : Nat → Int64} (h : RX T x S) (p : Int32) (h0 : ¬ p.toInt64 < 0) (h1 : p.toInt64 ≤ 8) : RX T (sa_X9_setDamping_0 x p) (f_X10_setDamping_o1 S 0 p) ∧ f_X10_setDamping_r S 0 = fa_X9_setDamping_0_r x := by
  have g0 := pz_ge (c := 0) rfl h0
  have g1 := pz_le' (c := 8) rfl h1
  have k0 : (0 : Int32).toInt = 0 := by decide
  have k1 : (8 : Int32).toInt = 8 := by decide
  have hs : S 10 = (x.1 6).toInt64 := h.1 6 (by decide)
  refine ⟨RX_log (RX_int h 6 (by decide) p p.toInt64 10 rfl rfl (by show (0 : Int) ≤ _; omega) (by show _ ≤ (8 : Int); omega)) 5 ((1 : Int32).toInt64), ?_⟩
  show (S 10).toInt32 = x.1 6
  rw [hs, pz_back]
theorem rs_setSpan_1 {T : Int} {x : XS} {S : Nat → Int64} (h : RX T x S) (p : Int32) (h0 : ¬ p.toInt64 < 100) (h1 : p.toInt64 ≤ 30000) : RX T (sa_X9_setSpan_1 x p) (f_X10_setSpan_o1 S 1 p) ∧ f_X10_setSpan_r S 1 = fa_X9_setSpan_1_r x := by
  have g0 := pz_ge (c := 100) rfl h0
  have g1 := pz_le' (c := 30000) rfl h1
  have k0 : (100 : Int32).toInt = 100 := by decide
  have k1 : (30000 : Int32).toInt = 30000 := by decide
  have hs : S 7 = (x.1 10).toInt64 := h.1 10 (by decide)
  refine ⟨RX_log (RX_int h 10 (by decide) p p.toInt64 7 rfl rfl (by show (100 : Int) ≤ _; omega) (by show _ ≤ (30000 : Int); omega)) 5 ((0 : Int32).toInt64), ?_⟩
  show (S 7).toInt32 = x.1 10
  rw [hs, pz_back]
theorem rs_setDamping_1 {T : Int} {x : XS} {S : Nat → Int64} (h : RX T x S) (p : Int32) (h0 : ¬ p.toInt64 < 0) (h1 : p.toInt64 ≤ 8) : RX T (sa_X9_setDamping_1 x p) (f_X10_setDamping_o1 S 1 p) ∧ f_X10_setDamping_r S 1 = fa_X9_setDamping_1_r x := by
  have g0 := pz_ge (c := 0) rfl h0
  have g1 := pz_le' (c := 8) rfl h1
  have k0 : (0 : Int32).toInt = 0 := by decide
  have k1 : (8 : Int32).toInt = 8 := by decide
  have hs : S 11 = (x.1 11).toInt64 := h.1 11 (by decide)
  refine ⟨RX_log (RX_int h 11 (by decide) p p.toInt64 11 rfl rfl (by show (0 : Int) ≤ _; omega) (by show _ ≤ (8 : Int); omega)) 5 ((1 : Int32).toInt64), ?_⟩
  show (S 11).toInt32 = x.1 11
  rw [hs, pz_back]
theorem rs_setSpan_2 {T : Int} {x : XS} {S : Nat → Int64} (h : RX T x S) (p : Int32) (h0 : ¬ p.toInt64 < 100) (h1 : p.toInt64 ≤ 30000) : RX T (sa_X9_setSpan_2 x p) (f_X10_setSpan_o1 S 2 p) ∧ f_X10_setSpan_r S 2 = fa_X9_setSpan_2_r x := by
  have g0 := pz_ge (c := 100) rfl h0
  have g1 := pz_le' (c := 30000) rfl h1
  have k0 : (100 : Int32).toInt = 100 := by decide
  have k1 : (30000 : Int32).toInt = 30000 := by decide
  have hs : S 8 = (x.1 15).toInt64 := h.1 15 (by decide)
  refine ⟨RX_log (RX_int h 15 (by decide) p p.toInt64 8 rfl rfl (by show (100 : Int) ≤ _; omega) (by show _ ≤ (30000 : Int); omega)) 5 ((0 : Int32).toInt64), ?_⟩
  show (S 8).toInt32 = x.1 15
  rw [hs, pz_back]
theorem rs_setDamping_2 {T : Int} {x : XS} {S : Nat → Int64} (h : RX T x S) (p : Int32) (h0 : ¬ p.toInt64 < 0) (h1 : p.toInt64 ≤ 8) : RX T (sa_X9_setDamping_2 x p) (f_X10_setDamping_o1 S 2 p) ∧ f_X10_setDamping_r S 2 = fa_X9_setDamping_2_r x := by
  have g0 := pz_ge (c := 0) rfl h0
  have g1 := pz_le' (c := 8) rfl h1
  have k0 : (0 : Int32).toInt = 0 := by decide
  have k1 : (8 : Int32).toInt = 8 := by decide
  have hs : S 12 = (x.1 16).toInt64 := h.1 16 (by decide)
  refine ⟨RX_log (RX_int h 16 (by decide) p p.toInt64 12 rfl rfl (by show (0 : Int) ≤ _; omega) (by show _ ≤ (8 : Int); omega)) 5 ((1 : Int32).toInt64), ?_⟩
  show (S 12).toInt32 = x.1 16
  rw [hs, pz_back]
theorem rs_setSpan_3 {T : Int} {x : XS} {S : Nat → Int64} (h : RX T x S) (p : Int32) (h0 : ¬ p.toInt64 < 100) (h1 : p.toInt64 ≤ 30000) : RX T (sa_X9_setSpan_3 x p) (f_X10_setSpan_o1 S 3 p) ∧ f_X10_setSpan_r S 3 = fa_X9_setSpan_3_r x := by
  have g0 := pz_ge (c := 100) rfl h0
  have g1 := pz_le' (c := 30000) rfl h1
  have k0 : (100 : Int32).toInt = 100 := by decide
  have k1 : (30000 : Int32).toInt = 30000 := by decide
  have hs : S 9 = (x.1 20).toInt64 := h.1 20 (by decide)
  refine ⟨RX_log (RX_int h 20 (by decide) p p.toInt64 9 rfl rfl (by show (100 : Int) ≤ _; omega) (by show _ ≤ (30000 : Int); omega)) 5 ((0 : Int32).toInt64), ?_⟩
  show (S 9).toInt32 = x.1 20
  rw [hs, pz_back]
theorem rs_setDamping_3 {T : Int} {x : XS} {S : Nat → Int64} (h : RX T x S) (p : Int32) (h0 : ¬ p.toInt64 < 0) (h1 : p.toInt64 ≤ 8) : RX T (sa_X9_setDamping_3 x p) (f_X10_setDamping_o1 S 3 p) ∧ f_X10_setDamping_r S 3 = fa_X9_setDamping_3_r x := by
  have g0 := pz_ge (c := 0) rfl h0
  have g1 := pz_le' (c := 8) rfl h1
  have k0 : (0 : Int32).toInt = 0 := by decide
  have k1 : (8 : Int32).toInt = 8 := by decide
  have hs : S 13 = (x.1 21).toInt64 := h.1 21 (by decide)
  refine ⟨RX_log (RX_int h 21 (by decide) p p.toInt64 13 rfl rfl (by show (0 : Int) ≤ _; omega) (by show _ ≤ (8 : Int); omega)) 5 ((1 : Int32).toInt64), ?_⟩
  show (S 13).toInt32 = x.1 21
  rw [hs, pz_back]
theorem rs_setMode {T : Int} {x : XS} {S : Nat → Int64} (h : RX T x S) (p : Int32) (h0 : ¬ p.toInt64 < 0) (h1 : p.toInt64 ≤ 1) : RX T (sa_X9_setMode x p) (f_X10_setMode_o1 S p) ∧ f_X10_setMode_r S = fa_X9_setMode_r x := by
  have g0 := pz_ge (c := 0) rfl h0
  have g1 := pz_le' (c := 1) rfl h1
  have k0 : (0 : Int32).toInt = 0 := by decide
  have k1 : (1 : Int32).toInt = 1 := by decide
  have hs : S 1 = (x.1 25).toInt64 := h.1 25 (by decide)
  refine ⟨RX_log (RX_int h 25 (by decide) p p.toInt64 1 rfl rfl (by show (0 : Int) ≤ _; omega) (by show _ ≤ (1 : Int); omega)) 5 ((2 : Int32).toInt64), ?_⟩
  show (S 1).toInt32 = x.1 25
  rw [hs, pz_back]
theorem rs_setMeter {T : Int} {x : XS} {S : Nat → Int64} (h : RX T x S) (p : Int32) (h0 : ¬ p.toInt64 < 1) (h1 : p.toInt64 ≤ 100000) : RX T (sa_X9_setMeter x p) (f_X10_setMeter_o1 S p) ∧ f_X10_setMeter_r S = fa_X9_setMeter_r x := by
  have g0 := pz_ge (c := 1) rfl h0
  have g1 := pz_le' (c := 100000) rfl h1
  have k0 : (1 : Int32).toInt = 1 := by decide
  have k1 : (100000 : Int32).toInt = 100000 := by decide
  have hs : S 2 = (x.1 26).toInt64 := h.1 26 (by decide)
  refine ⟨RX_log (RX_int h 26 (by decide) p p.toInt64 2 rfl rfl (by show (1 : Int) ≤ _; omega) (by show _ ≤ (100000 : Int); omega)) 5 ((5 : Int32).toInt64), ?_⟩
  show (S 2).toInt32 = x.1 26
  rw [hs, pz_back]
theorem rs_setContractHour {T : Int} {x : XS} {S : Nat → Int64} (h : RX T x S) (p : Int32) (h0 : ¬ p.toInt64 < 0) (h1 : p.toInt64 ≤ 23) : RX T (sa_X9_setContractHour x p) (f_X10_setContractHour_o1 S p) ∧ f_X10_setContractHour_r S = fa_X9_setContractHour_r x := by
  have g0 := pz_ge (c := 0) rfl h0
  have g1 := pz_le' (c := 23) rfl h1
  have k0 : (0 : Int32).toInt = 0 := by decide
  have k1 : (23 : Int32).toInt = 23 := by decide
  have hs : S 5 = (x.1 1).toInt64 := h.1 1 (by decide)
  refine ⟨RX_log (RX_int h 1 (by decide) p p.toInt64 5 rfl rfl (by show (0 : Int) ≤ _; omega) (by show _ ≤ (23 : Int); omega)) 5 ((7 : Int32).toInt64), ?_⟩
  show (S 5).toInt32 = x.1 1
  rw [hs, pz_back]
theorem rs_setDensity_0 {T : Int} {x : XS} {S : Nat → Int64} (h : RX T x S) (p : Int32) (h0 : ¬ p.toInt64 < 1) (h1 : p.toInt64 ≤ 20000) : RX T (sa_X9_setDensity_0 x p) (f_X10_setDensity_o1 S 0 p) ∧ f_X10_setDensity_r S 0 = fa_X9_setDensity_0_r x := by
  have g0 := pz_ge (c := 1) rfl h0
  have g1 := pz_le' (c := 20000) rfl h1
  have k0 : (1 : Int32).toInt = 1 := by decide
  have k1 : (20000 : Int32).toInt = 20000 := by decide
  refine ⟨RX_log (RX_A h 0 (by decide) p (by omega) (by omega)) 5 ((3 : Int32).toInt64), ?_⟩
  show (S (26 + 0)).toInt32 = x.2.2.1 0 0
  rw [h.2.2.2.1.1 0 (by decide), pz_back]
theorem rs_setDensity_1 {T : Int} {x : XS} {S : Nat → Int64} (h : RX T x S) (p : Int32) (h0 : ¬ p.toInt64 < 1) (h1 : p.toInt64 ≤ 20000) : RX T (sa_X9_setDensity_1 x p) (f_X10_setDensity_o1 S 1 p) ∧ f_X10_setDensity_r S 1 = fa_X9_setDensity_1_r x := by
  have g0 := pz_ge (c := 1) rfl h0
  have g1 := pz_le' (c := 20000) rfl h1
  have k0 : (1 : Int32).toInt = 1 := by decide
  have k1 : (20000 : Int32).toInt = 20000 := by decide
  refine ⟨RX_log (RX_A h 1 (by decide) p (by omega) (by omega)) 5 ((3 : Int32).toInt64), ?_⟩
  show (S (26 + 1)).toInt32 = x.2.2.1 0 1
  rw [h.2.2.2.1.1 1 (by decide), pz_back]
theorem rs_setDensity_2 {T : Int} {x : XS} {S : Nat → Int64} (h : RX T x S) (p : Int32) (h0 : ¬ p.toInt64 < 1) (h1 : p.toInt64 ≤ 20000) : RX T (sa_X9_setDensity_2 x p) (f_X10_setDensity_o1 S 2 p) ∧ f_X10_setDensity_r S 2 = fa_X9_setDensity_2_r x := by
  have g0 := pz_ge (c := 1) rfl h0
  have g1 := pz_le' (c := 20000) rfl h1
  have k0 : (1 : Int32).toInt = 1 := by decide
  have k1 : (20000 : Int32).toInt = 20000 := by decide
  refine ⟨RX_log (RX_A h 2 (by decide) p (by omega) (by omega)) 5 ((3 : Int32).toInt64), ?_⟩
  show (S (26 + 2)).toInt32 = x.2.2.1 0 2
  rw [h.2.2.2.1.1 2 (by decide), pz_back]
theorem rs_setDensity_3 {T : Int} {x : XS} {S : Nat → Int64} (h : RX T x S) (p : Int32) (h0 : ¬ p.toInt64 < 1) (h1 : p.toInt64 ≤ 20000) : RX T (sa_X9_setDensity_3 x p) (f_X10_setDensity_o1 S 3 p) ∧ f_X10_setDensity_r S 3 = fa_X9_setDensity_3_r x := by
  have g0 := pz_ge (c := 1) rfl h0
  have g1 := pz_le' (c := 20000) rfl h1
  have k0 : (1 : Int32).toInt = 1 := by decide
  have k1 : (20000 : Int32).toInt = 20000 := by decide
  refine ⟨RX_log (RX_A h 3 (by decide) p (by omega) (by omega)) 5 ((3 : Int32).toInt64), ?_⟩
  show (S (26 + 3)).toInt32 = x.2.2.1 0 3
  rw [h.2.2.2.1.1 3 (by decide), pz_back]
theorem rs_setDensity_4 {T : Int} {x : XS} {S : Nat → Int64} (h : RX T x S) (p : Int32) (h0 : ¬ p.toInt64 < 1) (h1 : p.toInt64 ≤ 20000) : RX T (sa_X9_setDensity_4 x p) (f_X10_setDensity_o1 S 4 p) ∧ f_X10_setDensity_r S 4 = fa_X9_setDensity_4_r x := by
  have g0 := pz_ge (c := 1) rfl h0
  have g1 := pz_le' (c := 20000) rfl h1
  have k0 : (1 : Int32).toInt = 1 := by decide
  have k1 : (20000 : Int32).toInt = 20000 := by decide
  refine ⟨RX_log (RX_A h 4 (by decide) p (by omega) (by omega)) 5 ((3 : Int32).toInt64), ?_⟩
  show (S (26 + 4)).toInt32 = x.2.2.1 0 4
  rw [h.2.2.2.1.1 4 (by decide), pz_back]
theorem rs_setDensity_5 {T : Int} {x : XS} {S : Nat → Int64} (h : RX T x S) (p : Int32) (h0 : ¬ p.toInt64 < 1) (h1 : p.toInt64 ≤ 20000) : RX T (sa_X9_setDensity_5 x p) (f_X10_setDensity_o1 S 5 p) ∧ f_X10_setDensity_r S 5 = fa_X9_setDensity_5_r x := by
  have g0 := pz_ge (c := 1) rfl h0
  have g1 := pz_le' (c := 20000) rfl h1
  have k0 : (1 : Int32).toInt = 1 := by decide
  have k1 : (20000 : Int32).toInt = 20000 := by decide
  refine ⟨RX_log (RX_A h 5 (by decide) p (by omega) (by omega)) 5 ((3 : Int32).toInt64), ?_⟩
  show (S (26 + 5)).toInt32 = x.2.2.1 0 5
  rw [h.2.2.2.1.1 5 (by decide), pz_back]
theorem rs_setFactor_0 {T : Int} {x : XS} {S : Nat → Int64} (h : RX T x S) (p : Int32) (h0 : ¬ p.toInt64 < 9000) (h1 : p.toInt64 ≤ 11000) : RX T (sa_X9_setFactor_0 x p) (f_X10_setFactor_o1 S 0 p) ∧ f_X10_setFactor_r S 0 = fa_X9_setFactor_0_r x := by
  have g0 := pz_ge (c := 9000) rfl h0
  have g1 := pz_le' (c := 11000) rfl h1
  have k0 : (9000 : Int32).toInt = 9000 := by decide
  have k1 : (11000 : Int32).toInt = 11000 := by decide
  refine ⟨RX_log (RX_F h 0 (by decide) p (by omega) (by omega)) 5 ((4 : Int32).toInt64), ?_⟩
  show (S (32 + 0)).toInt32 = x.2.2.1 1 0
  rw [h.2.2.2.1.2.2.1 0 (by decide), pz_back]
theorem rs_setFactor_1 {T : Int} {x : XS} {S : Nat → Int64} (h : RX T x S) (p : Int32) (h0 : ¬ p.toInt64 < 9000) (h1 : p.toInt64 ≤ 11000) : RX T (sa_X9_setFactor_1 x p) (f_X10_setFactor_o1 S 1 p) ∧ f_X10_setFactor_r S 1 = fa_X9_setFactor_1_r x := by
  have g0 := pz_ge (c := 9000) rfl h0
  have g1 := pz_le' (c := 11000) rfl h1
  have k0 : (9000 : Int32).toInt = 9000 := by decide
  have k1 : (11000 : Int32).toInt = 11000 := by decide
  refine ⟨RX_log (RX_F h 1 (by decide) p (by omega) (by omega)) 5 ((4 : Int32).toInt64), ?_⟩
  show (S (32 + 1)).toInt32 = x.2.2.1 1 1
  rw [h.2.2.2.1.2.2.1 1 (by decide), pz_back]
theorem rs_setFactor_2 {T : Int} {x : XS} {S : Nat → Int64} (h : RX T x S) (p : Int32) (h0 : ¬ p.toInt64 < 9000) (h1 : p.toInt64 ≤ 11000) : RX T (sa_X9_setFactor_2 x p) (f_X10_setFactor_o1 S 2 p) ∧ f_X10_setFactor_r S 2 = fa_X9_setFactor_2_r x := by
  have g0 := pz_ge (c := 9000) rfl h0
  have g1 := pz_le' (c := 11000) rfl h1
  have k0 : (9000 : Int32).toInt = 9000 := by decide
  have k1 : (11000 : Int32).toInt = 11000 := by decide
  refine ⟨RX_log (RX_F h 2 (by decide) p (by omega) (by omega)) 5 ((4 : Int32).toInt64), ?_⟩
  show (S (32 + 2)).toInt32 = x.2.2.1 1 2
  rw [h.2.2.2.1.2.2.1 2 (by decide), pz_back]
theorem rs_setFactor_3 {T : Int} {x : XS} {S : Nat → Int64} (h : RX T x S) (p : Int32) (h0 : ¬ p.toInt64 < 9000) (h1 : p.toInt64 ≤ 11000) : RX T (sa_X9_setFactor_3 x p) (f_X10_setFactor_o1 S 3 p) ∧ f_X10_setFactor_r S 3 = fa_X9_setFactor_3_r x := by
  have g0 := pz_ge (c := 9000) rfl h0
  have g1 := pz_le' (c := 11000) rfl h1
  have k0 : (9000 : Int32).toInt = 9000 := by decide
  have k1 : (11000 : Int32).toInt = 11000 := by decide
  refine ⟨RX_log (RX_F h 3 (by decide) p (by omega) (by omega)) 5 ((4 : Int32).toInt64), ?_⟩
  show (S (32 + 3)).toInt32 = x.2.2.1 1 3
  rw [h.2.2.2.1.2.2.1 3 (by decide), pz_back]
theorem rs_setFactor_4 {T : Int} {x : XS} {S : Nat → Int64} (h : RX T x S) (p : Int32) (h0 : ¬ p.toInt64 < 9000) (h1 : p.toInt64 ≤ 11000) : RX T (sa_X9_setFactor_4 x p) (f_X10_setFactor_o1 S 4 p) ∧ f_X10_setFactor_r S 4 = fa_X9_setFactor_4_r x := by
  have g0 := pz_ge (c := 9000) rfl h0
  have g1 := pz_le' (c := 11000) rfl h1
  have k0 : (9000 : Int32).toInt = 9000 := by decide
  have k1 : (11000 : Int32).toInt = 11000 := by decide
  refine ⟨RX_log (RX_F h 4 (by decide) p (by omega) (by omega)) 5 ((4 : Int32).toInt64), ?_⟩
  show (S (32 + 4)).toInt32 = x.2.2.1 1 4
  rw [h.2.2.2.1.2.2.1 4 (by decide), pz_back]
theorem rs_reading_0 {T : Int} {x : XS} {S : Nat → Int64} (h : RX T x S) : f_X10_readingOf_r S 0 0 = (f_X8_reading_r 0 (x.1 5) (x.1 7)).toInt64 := by
  have h6 : S 6 = (x.1 5).toInt64 := h.1 5 (by decide)
  have h14 : S 14 = (x.1 7).toInt64 := h.1 7 (by decide)
  have b6 : 100 ≤ (x.1 5).toInt ∧ (x.1 5).toInt ≤ 30000 := h.2.2.1 5 (by decide)
  have b14 : 0 ≤ (x.1 7).toInt ∧ (x.1 7).toInt ≤ 65535 := h.2.2.1 7 (by decide)
  have eo : (0 : Int32).toInt = 0 := by decide
  rw [(pz_reading 0 (x.1 5) (x.1 7) (by omega) (by omega) b6.1 b6.2 b14.1 b14.2).1]
  unfold f_X10_readingOf_r
  rw [if_neg (by decide)]
  show _ + f_X10_floor_r (S 6 * (S 14 - 13107)) 52428 = _
  rw [h6, h14]; rfl
theorem rs_setRaw_0 {T : Int} {x : XS} {S : Nat → Int64} (h : RX T x S) (p : Int32) (h0 : ¬ p.toInt64 < 0) (h1 : p.toInt64 ≤ 65535) : RX T (sa_X9_setRaw_0 x p) (f_X10_setRaw_o1 S 0 p) ∧ f_X10_setRaw_r S 0 0 p = fa_X9_setRaw_0_r x p := by
  have g0 := pz_ge (c := 0) rfl h0
  have g1 := pz_le' (c := 65535) rfl h1
  have k0 : (0 : Int32).toInt = 0 := by decide
  have k1 : (65535 : Int32).toInt = 65535 := by decide
  have r : RX T (sa_X9_setRaw_0 x p) (f_X10_setRaw_o1 S 0 p) := RX_int h 7 (by decide) p p.toInt64 14 rfl rfl (by show (0 : Int) ≤ _; omega) (by show _ ≤ (65535 : Int); omega)
  refine ⟨r, ?_⟩
  have e := rs_reading_0 r
  show (f_X10_readingOf_r (f_X10_setRaw_o1 S 0 p) 0 0).toInt32 = _
  rw [e, pz_back]; rfl
theorem rs_transmitter_0 {T : Int} {x : XS} {S : Nat → Int64} (h : RX T x S) : f_X10_transmitter_0_r S 0 0 = fa_X9_transmitter_0_0_r x ∧ f_X10_transmitter_1_r S 0 = fa_X9_transmitter_0_1_r x ∧ f_X10_transmitter_2_r S 0 = fa_X9_transmitter_0_2_r x ∧ f_X10_transmitter_3_r S 0 = fa_X9_transmitter_0_3_r x := by
  have h14 : S 14 = (x.1 7).toInt64 := h.1 7 (by decide)
  have h18 : S 18 = (x.1 8).toInt64 := h.1 8 (by decide)
  refine ⟨?_, ?_, ?_, ?_⟩
  · show (f_X10_readingOf_r S 0 0).toInt32 = _
    rw [rs_reading_0 h, pz_back]; rfl
  · show (S 18).toInt32 = x.1 8
    rw [h18, pz_back]
  · unfold f_X10_transmitter_2_r fa_X9_transmitter_0_2_r
    rw [pz_faulty _ S 0 h14]
    split <;> rfl
  · show (S 14).toInt32 = x.1 7
    rw [h14, pz_back]
theorem rs_reading_1 {T : Int} {x : XS} {S : Nat → Int64} (h : RX T x S) : f_X10_readingOf_r S 1 1 = (f_X8_reading_r 0 (x.1 10) (x.1 12)).toInt64 := by
  have h6 : S 7 = (x.1 10).toInt64 := h.1 10 (by decide)
  have h14 : S 15 = (x.1 12).toInt64 := h.1 12 (by decide)
  have b6 : 100 ≤ (x.1 10).toInt ∧ (x.1 10).toInt ≤ 30000 := h.2.2.1 10 (by decide)
  have b14 : 0 ≤ (x.1 12).toInt ∧ (x.1 12).toInt ≤ 65535 := h.2.2.1 12 (by decide)
  have eo : (0 : Int32).toInt = 0 := by decide
  rw [(pz_reading 0 (x.1 10) (x.1 12) (by omega) (by omega) b6.1 b6.2 b14.1 b14.2).1]
  unfold f_X10_readingOf_r
  rw [if_neg (by decide)]
  show _ + f_X10_floor_r (S 7 * (S 15 - 13107)) 52428 = _
  rw [h6, h14]; rfl
theorem rs_setRaw_1 {T : Int} {x : XS} {S : Nat → Int64} (h : RX T x S) (p : Int32) (h0 : ¬ p.toInt64 < 0) (h1 : p.toInt64 ≤ 65535) : RX T (sa_X9_setRaw_1 x p) (f_X10_setRaw_o1 S 1 p) ∧ f_X10_setRaw_r S 1 1 p = fa_X9_setRaw_1_r x p := by
  have g0 := pz_ge (c := 0) rfl h0
  have g1 := pz_le' (c := 65535) rfl h1
  have k0 : (0 : Int32).toInt = 0 := by decide
  have k1 : (65535 : Int32).toInt = 65535 := by decide
  have r : RX T (sa_X9_setRaw_1 x p) (f_X10_setRaw_o1 S 1 p) := RX_int h 12 (by decide) p p.toInt64 15 rfl rfl (by show (0 : Int) ≤ _; omega) (by show _ ≤ (65535 : Int); omega)
  refine ⟨r, ?_⟩
  have e := rs_reading_1 r
  show (f_X10_readingOf_r (f_X10_setRaw_o1 S 1 p) 1 1).toInt32 = _
  rw [e, pz_back]; rfl
theorem rs_transmitter_1 {T : Int} {x : XS} {S : Nat → Int64} (h : RX T x S) : f_X10_transmitter_0_r S 1 1 = fa_X9_transmitter_1_0_r x ∧ f_X10_transmitter_1_r S 1 = fa_X9_transmitter_1_1_r x ∧ f_X10_transmitter_2_r S 1 = fa_X9_transmitter_1_2_r x ∧ f_X10_transmitter_3_r S 1 = fa_X9_transmitter_1_3_r x := by
  have h14 : S 15 = (x.1 12).toInt64 := h.1 12 (by decide)
  have h18 : S 19 = (x.1 13).toInt64 := h.1 13 (by decide)
  refine ⟨?_, ?_, ?_, ?_⟩
  · show (f_X10_readingOf_r S 1 1).toInt32 = _
    rw [rs_reading_1 h, pz_back]; rfl
  · show (S 19).toInt32 = x.1 13
    rw [h18, pz_back]
  · unfold f_X10_transmitter_2_r fa_X9_transmitter_1_2_r
    rw [pz_faulty _ S 1 h14]
    split <;> rfl
  · show (S 15).toInt32 = x.1 12
    rw [h14, pz_back]
theorem rs_reading_2 {T : Int} {x : XS} {S : Nat → Int64} (h : RX T x S) : f_X10_readingOf_r S 2 2 = (f_X8_reading_r 0 (x.1 15) (x.1 17)).toInt64 := by
  have h6 : S 8 = (x.1 15).toInt64 := h.1 15 (by decide)
  have h14 : S 16 = (x.1 17).toInt64 := h.1 17 (by decide)
  have b6 : 100 ≤ (x.1 15).toInt ∧ (x.1 15).toInt ≤ 30000 := h.2.2.1 15 (by decide)
  have b14 : 0 ≤ (x.1 17).toInt ∧ (x.1 17).toInt ≤ 65535 := h.2.2.1 17 (by decide)
  have eo : (0 : Int32).toInt = 0 := by decide
  rw [(pz_reading 0 (x.1 15) (x.1 17) (by omega) (by omega) b6.1 b6.2 b14.1 b14.2).1]
  unfold f_X10_readingOf_r
  rw [if_neg (by decide)]
  show _ + f_X10_floor_r (S 8 * (S 16 - 13107)) 52428 = _
  rw [h6, h14]; rfl
theorem rs_setRaw_2 {T : Int} {x : XS} {S : Nat → Int64} (h : RX T x S) (p : Int32) (h0 : ¬ p.toInt64 < 0) (h1 : p.toInt64 ≤ 65535) : RX T (sa_X9_setRaw_2 x p) (f_X10_setRaw_o1 S 2 p) ∧ f_X10_setRaw_r S 2 2 p = fa_X9_setRaw_2_r x p := by
  have g0 := pz_ge (c := 0) rfl h0
  have g1 := pz_le' (c := 65535) rfl h1
  have k0 : (0 : Int32).toInt = 0 := by decide
  have k1 : (65535 : Int32).toInt = 65535 := by decide
  have r : RX T (sa_X9_setRaw_2 x p) (f_X10_setRaw_o1 S 2 p) := RX_int h 17 (by decide) p p.toInt64 16 rfl rfl (by show (0 : Int) ≤ _; omega) (by show _ ≤ (65535 : Int); omega)
  refine ⟨r, ?_⟩
  have e := rs_reading_2 r
  show (f_X10_readingOf_r (f_X10_setRaw_o1 S 2 p) 2 2).toInt32 = _
  rw [e, pz_back]; rfl
theorem rs_transmitter_2 {T : Int} {x : XS} {S : Nat → Int64} (h : RX T x S) : f_X10_transmitter_0_r S 2 2 = fa_X9_transmitter_2_0_r x ∧ f_X10_transmitter_1_r S 2 = fa_X9_transmitter_2_1_r x ∧ f_X10_transmitter_2_r S 2 = fa_X9_transmitter_2_2_r x ∧ f_X10_transmitter_3_r S 2 = fa_X9_transmitter_2_3_r x := by
  have h14 : S 16 = (x.1 17).toInt64 := h.1 17 (by decide)
  have h18 : S 20 = (x.1 18).toInt64 := h.1 18 (by decide)
  refine ⟨?_, ?_, ?_, ?_⟩
  · show (f_X10_readingOf_r S 2 2).toInt32 = _
    rw [rs_reading_2 h, pz_back]; rfl
  · show (S 20).toInt32 = x.1 18
    rw [h18, pz_back]
  · unfold f_X10_transmitter_2_r fa_X9_transmitter_2_2_r
    rw [pz_faulty _ S 2 h14]
    split <;> rfl
  · show (S 16).toInt32 = x.1 17
    rw [h14, pz_back]
theorem rs_reading_3 {T : Int} {x : XS} {S : Nat → Int64} (h : RX T x S) : f_X10_readingOf_r S 3 3 = (f_X8_reading_r (-500) (x.1 20) (x.1 22)).toInt64 := by
  have h6 : S 9 = (x.1 20).toInt64 := h.1 20 (by decide)
  have h14 : S 17 = (x.1 22).toInt64 := h.1 22 (by decide)
  have b6 : 100 ≤ (x.1 20).toInt ∧ (x.1 20).toInt ≤ 30000 := h.2.2.1 20 (by decide)
  have b14 : 0 ≤ (x.1 22).toInt ∧ (x.1 22).toInt ≤ 65535 := h.2.2.1 22 (by decide)
  have eo : ((-500) : Int32).toInt = -500 := by decide
  rw [(pz_reading (-500) (x.1 20) (x.1 22) (by omega) (by omega) b6.1 b6.2 b14.1 b14.2).1]
  unfold f_X10_readingOf_r
  rw [if_pos (by decide)]
  show _ + f_X10_floor_r (S 9 * (S 17 - 13107)) 52428 = _
  rw [h6, h14]; rfl
theorem rs_setRaw_3 {T : Int} {x : XS} {S : Nat → Int64} (h : RX T x S) (p : Int32) (h0 : ¬ p.toInt64 < 0) (h1 : p.toInt64 ≤ 65535) : RX T (sa_X9_setRaw_3 x p) (f_X10_setRaw_o1 S 3 p) ∧ f_X10_setRaw_r S 3 3 p = fa_X9_setRaw_3_r x p := by
  have g0 := pz_ge (c := 0) rfl h0
  have g1 := pz_le' (c := 65535) rfl h1
  have k0 : (0 : Int32).toInt = 0 := by decide
  have k1 : (65535 : Int32).toInt = 65535 := by decide
  have r : RX T (sa_X9_setRaw_3 x p) (f_X10_setRaw_o1 S 3 p) := RX_int h 22 (by decide) p p.toInt64 17 rfl rfl (by show (0 : Int) ≤ _; omega) (by show _ ≤ (65535 : Int); omega)
  refine ⟨r, ?_⟩
  have e := rs_reading_3 r
  show (f_X10_readingOf_r (f_X10_setRaw_o1 S 3 p) 3 3).toInt32 = _
  rw [e, pz_back]; rfl
theorem rs_transmitter_3 {T : Int} {x : XS} {S : Nat → Int64} (h : RX T x S) : f_X10_transmitter_0_r S 3 3 = fa_X9_transmitter_3_0_r x ∧ f_X10_transmitter_1_r S 3 = fa_X9_transmitter_3_1_r x ∧ f_X10_transmitter_2_r S 3 = fa_X9_transmitter_3_2_r x ∧ f_X10_transmitter_3_r S 3 = fa_X9_transmitter_3_3_r x := by
  have h14 : S 17 = (x.1 22).toInt64 := h.1 22 (by decide)
  have h18 : S 21 = (x.1 23).toInt64 := h.1 23 (by decide)
  refine ⟨?_, ?_, ?_, ?_⟩
  · show (f_X10_readingOf_r S 3 3).toInt32 = _
    rw [rs_reading_3 h, pz_back]; rfl
  · show (S 21).toInt32 = x.1 23
    rw [h18, pz_back]
  · unfold f_X10_transmitter_2_r fa_X9_transmitter_3_2_r
    rw [pz_faulty _ S 3 h14]
    split <;> rfl
  · show (S 17).toInt32 = x.1 22
    rw [h14, pz_back]
theorem rs_setCutoff {T : Int} {x : XS} {S : Nat → Int64} (h : RX T x S) (p q : Int32) (h0 : ¬ p.toInt64 < 0) (h1 : p.toInt64 ≤ q.toInt64) (h2 : q.toInt64 ≤ 100000) : RX T (sa_X9_setCutoff x p q) (f_X10_setCutoff_o1 S p q) ∧ f_X10_setCutoff_r S = fa_X9_setCutoff_r x := by
  have g0 := pz_ge (c := 0) rfl h0
  have g1 := pz_le' (c := q) rfl h1
  have g2 := pz_le' (c := 100000) rfl h2
  have k0 : (0 : Int32).toInt = 0 := by decide
  have k1 : (100000 : Int32).toInt = 100000 := by decide
  have hs : S 3 = (x.1 27).toInt64 := h.1 27 (by decide)
  have r1 := RX_int h 27 (by decide) p p.toInt64 3 rfl rfl (by show (0 : Int) ≤ _; omega) (by show _ ≤ (100000 : Int); omega)
  have r2 := RX_log r1 5 ((6 : Int32).toInt64)
  have r3 := RX_int r2 28 (by decide) q q.toInt64 4 rfl rfl (by show (0 : Int) ≤ _; omega) (by show _ ≤ (100000 : Int); omega)
  rw [← xG_I (by decide) (by decide) (by decide)] at r3
  refine ⟨r3, ?_⟩
  show (S 3).toInt32 = x.1 27
  rw [hs, pz_back]
theorem rs_closeBatch {T : Int} {x : XS} {S : Nat → Int64} (h : RX T x S) : RX T (sa_X9_closeBatch x) (f_X10_closeBatch_o1 S) ∧ f_X10_closeBatch_r S = fa_X9_closeBatch_r x := by
  have hs : S 44 = x.2.1 3 := h.2.1 3 (by decide)
  have r1 := RX_int h 31 (by decide) 0 0 45 rfl rfl (by decide) (by show _ ≤ (1 : Int); decide)
  have r2 := RX_int r1 34 (by decide) 0 0 49 rfl rfl (by decide) (by show _ ≤ (2 : Int); decide)
  exact ⟨r2, hs⟩
theorem rs_openBatch {T : Int} {x : XS} {S : Nat → Int64} (h : RX T x S) (hT : T < 2000000000) (p q : Int32) (h0 : ¬ p.toInt64 < 1) (h1 : p.toInt64 ≤ 1000000000) (h2 : ¬ q.toInt64 < 0) (h3 : q.toInt64 ≤ 1000000000) : RX (T + 1) (sa_X9_openBatch x p q) (f_X10_openBatch_o1 S p q) ∧ f_X10_openBatch_r S p q = fa_X9_openBatch_r x := by
  have g0 := pz_ge (c := 1) rfl h0
  have g1 := pz_le' (c := 1000000000) rfl h1
  have g2 := pz_ge (c := 0) rfl h2
  have g3 := pz_le' (c := 1000000000) rfl h3
  have k0 : (0 : Int32).toInt = 0 := by decide
  have k1 : (1 : Int32).toInt = 1 := by decide
  have k2 : (1000000000 : Int32).toInt = 1000000000 := by decide
  have b30 : 0 ≤ (x.1 30).toInt ∧ (x.1 30).toInt ≤ T := h.2.2.1 30 (by decide)
  have i30 : (x.1 30 + 1).toInt = (x.1 30).toInt + 1 := by rw [Kit.i32_add (by rw [k1]; omega) (by rw [k1]; omega), k1]
  have j30 : (x.1 30 + 1).toInt64 = (x.1 30).toInt64 + 1 := pz_add (by rw [k1]; omega) (by rw [k1]; omega)
  have r0 := RX_mono h (show T ≤ T + 1 by omega)
  have r1 := RX_int r0 31 (by decide) 1 1 45 rfl rfl (by decide) (by show _ ≤ (1 : Int); decide)
  have r2 := RX_long r1 3 (by decide) 0 0 44 rfl rfl
  have r3 := RX_int r2 32 (by decide) p p.toInt64 46 rfl rfl (by show (0 : Int) ≤ _; omega) (by show _ ≤ (1000000000 : Int); omega)
  have r4 := RX_int r3 33 (by decide) q q.toInt64 47 rfl rfl (by show (0 : Int) ≤ _; omega) (by show _ ≤ (1000000000 : Int); omega)
  have fin : ∀ v : Int32, v = 1 ∨ v = 2 → f_X0_begin_o0_5 p q = v →
      RX (T + 1) (sa_X9_openBatch x p q) (vp_updL (vp_updL (vp_updL (vp_updL (vp_updL (vp_updL S 45 1) 44 0) 46 p.toInt64) 47 q.toInt64) 49 v.toInt64) 48 (((vp_updL (vp_updL (vp_updL (vp_updL (vp_updL S 45 1) 44 0) 46 p.toInt64) 47 q.toInt64) 49 v.toInt64) 48) + 1))
      ∧ ((vp_updL (vp_updL (vp_updL (vp_updL (vp_updL (vp_updL S 45 1) 44 0) 46 p.toInt64) 47 q.toInt64) 49 v.toInt64) 48 (((vp_updL (vp_updL (vp_updL (vp_updL (vp_updL S 45 1) 44 0) 46 p.toInt64) 47 q.toInt64) 49 v.toInt64) 48) + 1)) 48).toInt32 = fa_X9_openBatch_r x := by
    intro v hv he
    have r5 := RX_int r4 34 (by decide) v v.toInt64 49 rfl rfl (by rcases hv with z | z <;> rw [z] <;> decide) (by rcases hv with z | z <;> rw [z] <;> show _ ≤ (2 : Int) <;> decide)
    obtain ⟨Z, hZ⟩ : ∃ Z, Z = vp_updL (vp_updL (vp_updL (vp_updL (vp_updL S 45 1) 44 0) 46 p.toInt64) 47 q.toInt64) 49 v.toInt64 := ⟨_, rfl⟩
    rw [← hZ] at r5 ⊢
    have z48 : Z 48 = (x.1 30).toInt64 := r5.1 30 (by decide)
    have r6 := RX_int r5 30 (by decide) (x.1 30 + 1) (Z 48 + 1) 48 rfl (by rw [z48, j30]) (by show (0 : Int) ≤ _; omega) (by show _ ≤ T + 1; omega)
    constructor
    · have eq : sa_X9_openBatch x p q = xI (xI (xI (xI (xL (xI x 31 1) 3 0) 32 p) 33 q) 34 v) 30 (x.1 30 + 1) := by
        unfold sa_X9_openBatch
        rw [he]
        unfold f_X0_begin_o0_0
        refine Prod.ext (funext fun j => ?_) rfl
        show upd (upd (upd (upd (upd x.1 30 (x.1 30 + 1)) 31 1) 32 p) 33 q) 34 v j = upd (upd (upd (upd (upd x.1 31 1) 32 p) 33 q) 34 v) 30 (x.1 30 + 1) j
        by_cases c30 : j = 30
        · subst c30
          rw [upd_ne _ _ (show ¬ 30 = 34 by decide), upd_ne _ _ (show ¬ 30 = 33 by decide), upd_ne _ _ (show ¬ 30 = 32 by decide), upd_ne _ _ (show ¬ 30 = 31 by decide), upd_at, upd_at]
        by_cases c31 : j = 31
        · subst c31
          rw [upd_ne _ _ (show ¬ 31 = 34 by decide), upd_ne _ _ (show ¬ 31 = 33 by decide), upd_ne _ _ (show ¬ 31 = 32 by decide), upd_at, upd_ne _ _ (show ¬ 31 = 30 by decide), upd_ne _ _ (show ¬ 31 = 34 by decide), upd_ne _ _ (show ¬ 31 = 33 by decide), upd_ne _ _ (show ¬ 31 = 32 by decide), upd_at]
        by_cases c32 : j = 32
        · subst c32
          rw [upd_ne _ _ (show ¬ 32 = 34 by decide), upd_ne _ _ (show ¬ 32 = 33 by decide), upd_at, upd_ne _ _ (show ¬ 32 = 30 by decide), upd_ne _ _ (show ¬ 32 = 34 by decide), upd_ne _ _ (show ¬ 32 = 33 by decide), upd_at]
        by_cases c33 : j = 33
        · subst c33
          rw [upd_ne _ _ (show ¬ 33 = 34 by decide), upd_at, upd_ne _ _ (show ¬ 33 = 30 by decide), upd_ne _ _ (show ¬ 33 = 34 by decide), upd_at]
        by_cases c34 : j = 34
        · subst c34
          rw [upd_at, upd_ne _ _ (show ¬ 34 = 30 by decide), upd_at]
        rw [upd_ne _ _ c34, upd_ne _ _ c33, upd_ne _ _ c32, upd_ne _ _ c31, upd_ne _ _ c30, upd_ne _ _ c30, upd_ne _ _ c34, upd_ne _ _ c33, upd_ne _ _ c32, upd_ne _ _ c31]
      rw [eq]; exact r6
    · rw [vpu_at, z48, ← j30, pz_back]; rfl
  have hv : f_X0_begin_o0_5 p q = if q < p then 2 else 1 := by
    unfold f_X0_begin_o0_5 f_X0_setValve_o0_5
    rw [Int64.sub_zero]
    by_cases c : q < p
    · rw [if_pos c, if_pos (pz_lt.mpr c)]
    · rw [if_neg c, if_neg (fun z => c (pz_lt.mp z))]
  unfold f_X10_openBatch_o1 f_X10_openBatch_r
  by_cases c : q < p
  · rw [if_pos c] at hv
    rw [if_pos c, if_pos c]
    exact fin 2 (Or.inr rfl) hv
  · rw [if_neg c] at hv
    rw [if_neg c, if_neg c]
    exact fin 1 (Or.inl rfl) hv
