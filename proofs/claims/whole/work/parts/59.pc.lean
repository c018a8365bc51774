theorem pn_t {n : Nat} (h : n < 2147483648) : (nI n).toInt = (n : Int) := Int32.toInt_ofNat_of_lt h
theorem pn_l {n : Nat} (h : n < 2147483648) : (lN n).toInt = (n : Int) := Int64.toInt_ofNat_of_lt (by omega)
theorem pn_64 {n : Nat} (h : n < 2147483648) : (nI n).toInt64 = lN n := by
  apply pz_ext; rw [pz_t, pn_t h, pn_l h]
theorem pn_c {n : Nat} (h : n < 2147483648) : (nI n).toNatClampNeg = n := by
  show (nI n).toInt.toNat = n
  rw [pn_t h]; rfl
theorem pn_lt {a b : Nat} (ha : a < 2147483648) (hb : b < 2147483648) : nI a < nI b ↔ a < b := by
  rw [Int32.lt_iff_toInt_lt, pn_t ha, pn_t hb]; omega
theorem pn_le {a b : Nat} (ha : a < 2147483648) (hb : b < 2147483648) : nI a ≤ nI b ↔ a ≤ b := by
  rw [Int32.le_iff_toInt_le, pn_t ha, pn_t hb]; omega
theorem pn_add (a b : Nat) : nI a + nI b = nI (a + b) := (Int32.ofNat_add a b).symm
theorem pn_mul (a b : Nat) : nI a * nI b = nI (a * b) := (Int32.ofNat_mul a b).symm
theorem pn_sub {a b : Nat} (h : b ≤ a) (ha : a < 2147483648) : nI a - nI b = nI (a - b) := by
  apply Int32.toInt_inj.mp
  rw [Kit.i32_sub (by rw [pn_t ha, pn_t (by omega)]; omega) (by rw [pn_t ha, pn_t (by omega)]; omega), pn_t ha, pn_t (by omega), pn_t (by omega)]; omega
theorem pn_back {n : Nat} (h : n < 2147483648) : (lN n).toInt.toNat = n := by rw [pn_l h]; rfl
/-- the three rings -/
def rgOk (w cap : Nat) : Prop := (w = 7 ∧ cap = 24) ∨ (w = 4 ∧ cap = 5) ∨ (w = 3 ∧ cap = 30)
def relR (b w cap : Nat) (S : Nat → Int64) (o n : Int32) (g : Nat → Int64) : Prop :=
  ∃ a c : Nat, o = nI a ∧ n = nI c ∧ a < cap ∧ c ≤ cap ∧ S b = lN c ∧ ∀ i j, i < c → j < w → S (b + 1 + w * i + j) = g (((a + i) % cap) * w + j)
def relRp (b w cap : Nat) (S : Nat → Int64) (a c : Nat) (g : Nat → Int64) (m : Nat) : Prop :=
  a < cap ∧ 1 ≤ c ∧ c ≤ cap ∧ S b = lN c ∧ (∀ i j, i + 1 < c → j < w → S (b + 1 + w * i + j) = g (((a + i) % cap) * w + j)) ∧ (∀ j, j < m → S (b + 1 + w * (c - 1) + j) = g (((a + (c - 1)) % cap) * w + j))
theorem relR_congr {b w cap : Nat} {S S' : Nat → Int64} {o n : Int32} {g : Nat → Int64} (hr : rgOk w cap) (h : relR b w cap S o n g) (e : ∀ j, b ≤ j → j < b + 1 + w * cap → S' j = S j) : relR b w cap S' o n g := by
  obtain ⟨a, c, h1, h2, h3, h4, h5, h6⟩ := h
  have hw : 0 < w * cap := by rcases hr with ⟨rfl, rfl⟩ | ⟨rfl, rfl⟩ | ⟨rfl, rfl⟩ <;> decide
  refine ⟨a, c, h1, h2, h3, h4, by rw [e b (by omega) (by omega)]; exact h5, fun i j hi hj => ?_⟩
  rw [e _ (by omega) (by rcases hr with ⟨rfl, rfl⟩ | ⟨rfl, rfl⟩ | ⟨rfl, rfl⟩ <;> omega)]
  exact h6 i j hi hj
theorem relRp_congr {b w cap a c : Nat} {S S' : Nat → Int64} {g : Nat → Int64} {m : Nat} (hr : rgOk w cap) (hm : m ≤ w) (h : relRp b w cap S a c g m) (e : ∀ j, b ≤ j → j < b + 1 + w * cap → S' j = S j) : relRp b w cap S' a c g m := by
  obtain ⟨h1, h2, h3, h4, h5, h6⟩ := h
  have hw : 0 < w * cap := by rcases hr with ⟨rfl, rfl⟩ | ⟨rfl, rfl⟩ | ⟨rfl, rfl⟩ <;> decide
  refine ⟨h1, h2, h3, by rw [e b (by omega) (by omega)]; exact h4, fun i j hi hj => ?_, fun j hj => ?_⟩
  · rw [e _ (by omega) (by rcases hr with ⟨rfl, rfl⟩ | ⟨rfl, rfl⟩ | ⟨rfl, rfl⟩ <;> omega)]
    exact h5 i j hi hj
  · rw [e _ (by omega) (by rcases hr with ⟨rfl, rfl⟩ | ⟨rfl, rfl⟩ | ⟨rfl, rfl⟩ <;> omega)]
    exact h6 j hj
theorem relR_of {b w cap a c : Nat} {S : Nat → Int64} {g : Nat → Int64} (h : relRp b w cap S a c g w) : relR b w cap S (nI a) (nI c) g := by
  obtain ⟨h1, h2, h3, h4, h5, h6⟩ := h
  refine ⟨a, c, rfl, rfl, h1, h3, h4, fun i j hi hj => ?_⟩
  by_cases e : i + 1 < c
  · exact h5 i j e hj
  · have : i = c - 1 := by omega
    subst this
    exact h6 j hj
theorem rg_cell {w cap : Nat} (hr : rgOk w cap) {a i j : Nat} (ha : a < cap) (hi : i < cap) (hj : j < w) :
    f_X4_cellOf_r (nI cap) (nI w) (nI a) (nI i) (nI j) = nI (((a + i) % cap) * w + j) ∧ ((a + i) % cap) * w + j < w * cap ∧ w * cap ≤ 168 ∧ cap ≤ 30 := by
  have hb : ((a + i) % cap) * w + j < w * cap ∧ w * cap ≤ 168 ∧ cap ≤ 30 ∧ (a + i) * w + j < 1000 := by
    rcases hr with ⟨rfl, rfl⟩ | ⟨rfl, rfl⟩ | ⟨rfl, rfl⟩ <;> omega
  refine ⟨?_, hb.1, hb.2.1, hb.2.2.1⟩
  unfold f_X4_cellOf_r
  rw [pn_add]
  by_cases c : a + i < cap
  · rw [if_pos ((pn_lt (by omega) (by omega)).mpr c), pn_mul, pn_add, Nat.mod_eq_of_lt c]
  · rw [if_neg (fun z => c ((pn_lt (by omega) (by omega)).mp z)), pn_sub (by omega) (by omega), pn_mul, pn_add]
    have : (a + i) % cap = a + i - cap := by
      rw [Nat.mod_eq_sub_mod (by omega), Nat.mod_eq_of_lt (by omega)]
    rw [this]
theorem rg_put {w cap : Nat} (hr : rgOk w cap) {a c j : Nat} (ha : a < cap) (hc : 1 ≤ c) (hc2 : c ≤ cap) (hj : j < w) (g : Nat → Int64) (x : Int64) :
    f_X4_put_o1 (w * cap) (nI cap) (nI w) (nI a) (nI c) g (nI j) x = vp_updL g (((a + (c - 1)) % cap) * w + j) x := by
  obtain ⟨h1, h2, h3, h4⟩ := rg_cell hr (a := a) (i := c - 1) (j := j) ha (by omega) hj
  unfold f_X4_put_o1
  rw [show nI c - 1 = nI (c - 1) from pn_sub hc (by omega), h1]
  rw [if_neg (by rw [show (0 : Int32) = nI 0 from rfl, pn_lt (by omega) (by omega)]; omega), if_neg (by rw [show Int32.ofNat (w * cap) = nI (w * cap) from rfl, pn_le (by omega) (by omega)]; omega), pn_c (by omega)]
theorem rg_value {w cap : Nat} (hr : rgOk w cap) {a i j : Nat} (ha : a < cap) (hi : i < cap) (hj : j < w) (g : Nat → Int64) :
    f_X4_valueAt_r (w * cap) (nI cap) (nI w) (nI a) g (nI i) (nI j) = g (((a + i) % cap) * w + j) := by
  obtain ⟨h1, h2, h3, h4⟩ := rg_cell hr (a := a) (i := i) (j := j) ha hi hj
  unfold f_X4_valueAt_r
  rw [h1]
  rw [if_neg (by rw [show (0 : Int32) = nI 0 from rfl, pn_lt (by omega) (by omega)]; omega), if_neg (by rw [show Int32.ofNat (w * cap) = nI (w * cap) from rfl, pn_le (by omega) (by omega)]; omega), pn_c (by omega)]
theorem rg_add {b w cap : Nat} (hr : rgOk w cap) {S : Nat → Int64} {o n : Int32} {g : Nat → Int64} (h : relR b w cap S o n g) :
    ∃ a c : Nat, f_X4_addRow_o0_3 (nI cap) o n = nI a ∧ f_X4_addRow_o0_4 (nI cap) n = nI c ∧ md_cn b cap S = c ∧ relRp b w cap (md_comes b w cap (w * (cap - 1)) S) a c g 0 := by
  obtain ⟨a, c, rfl, rfl, h3, h4, h5, h6⟩ := h
  have hcap : cap ≤ 30 ∧ 0 < w ∧ 1 < cap := by rcases hr with ⟨rfl, rfl⟩ | ⟨rfl, rfl⟩ | ⟨rfl, rfl⟩ <;> omega
  have hb : (S b).toInt.toNat = c := by rw [h5]; exact pn_back (by omega)
  have hcn : md_cn b cap S = if c = cap then cap else c + 1 := by unfold md_cn; rw [hb]
  have hco : md_comes b w cap (w * (cap - 1)) S = vp_updL (if c = cap then md_down b w (w * (cap - 1)) (w * (cap - 1)) S else S) b (lN (if c = cap then cap else c + 1)) := by
    unfold md_comes; rw [hcn, hb]
  rw [hcn, hco]
  unfold f_X4_addRow_o0_3 f_X4_addRow_o0_4
  by_cases e : c = cap
  · subst e
    rw [if_pos ((pn_le (by omega) (by omega)).mpr (Nat.le_refl _)), if_pos ((pn_le (by omega) (by omega)).mpr (Nat.le_refl _)), if_pos rfl, if_pos rfl]
    refine ⟨(a + 1) % c, c, ?_, rfl, rfl, Nat.mod_lt _ (by omega), by omega, Nat.le_refl _, ?_, ?_, fun j hj => absurd hj (by omega)⟩
    · rw [show nI a + 1 = nI (a + 1) from pn_add a 1]
      by_cases z : c ≤ a + 1
      · rw [if_pos ((pn_le (by omega) (by omega)).mpr z), show a + 1 = c by omega, Nat.mod_self]; rfl
      · rw [if_neg (fun k => z ((pn_le (by omega) (by omega)).mp k)), Nat.mod_eq_of_lt (by omega)]
    · unfold vp_updL; rw [if_pos rfl]
    · intro i j hi hj
      have e1 : vp_updL (md_down b w (w * (c - 1)) (w * (c - 1)) S) b (lN c) (b + 1 + w * i + j) = S (b + 1 + w * (i + 1) + j) := by
        unfold vp_updL md_down
        rw [if_neg (by omega), if_pos (by rcases hr with ⟨rfl, rfl⟩ | ⟨rfl, rfl⟩ | ⟨rfl, rfl⟩ <;> omega)]
        congr 1
        rw [Nat.mul_add]; omega
      rw [e1, h6 (i + 1) j (by omega) hj]
      congr 3
      rw [Nat.mod_add_mod]
      congr 1
      omega
  · rw [if_neg (fun k => e (Nat.le_antisymm h4 ((pn_le (by omega) (by omega)).mp k))), if_neg (fun k => e (Nat.le_antisymm h4 ((pn_le (by omega) (by omega)).mp k))), if_neg e, if_neg e]
    refine ⟨a, c + 1, rfl, pn_add c 1, rfl, h3, by omega, by omega, ?_, ?_, fun j hj => absurd hj (by omega)⟩
    · unfold vp_updL; rw [if_pos rfl]
    · intro i j hi hj
      unfold vp_updL
      rw [if_neg (by omega)]
      exact h6 i j (by omega) hj
theorem rg_put1 {b w cap : Nat} (hr : rgOk w cap) {S : Nat → Int64} {a c m : Nat} {g : Nat → Int64} (h : relRp b w cap S a c g m) (hm : m < w) (v : Int64) :
    relRp b w cap (vp_updL S (b + 1 + w * (c - 1) + m) v) a c (f_X4_put_o1 (w * cap) (nI cap) (nI w) (nI a) (nI c) g (nI m) v) (m + 1) := by
  obtain ⟨h1, h2, h3, h4, h5, h6⟩ := h
  rw [rg_put hr h1 h2 h3 hm]
  refine ⟨h1, h2, h3, ?_, ?_, ?_⟩
  · unfold vp_updL; rw [if_neg (by omega)]; exact h4
  · intro i j hi hj
    unfold vp_updL
    have hn : ¬ (a + i) % cap = (a + (c - 1)) % cap := by
      rcases hr with ⟨rfl, rfl⟩ | ⟨rfl, rfl⟩ | ⟨rfl, rfl⟩ <;> omega
    rw [if_neg (by rcases hr with ⟨rfl, rfl⟩ | ⟨rfl, rfl⟩ | ⟨rfl, rfl⟩ <;> omega)]
    rw [if_neg (by rcases hr with ⟨rfl, rfl⟩ | ⟨rfl, rfl⟩ | ⟨rfl, rfl⟩ <;> omega)]
    exact h5 i j hi hj
  · intro j hj
    unfold vp_updL
    by_cases e : j = m
    · subst e; rw [if_pos rfl, if_pos rfl]
    · rw [if_neg (by omega), if_neg (by omega)]
      exact h6 j (by omega)
theorem md_at_eq {b w cap : Nat} {S : Nat → Int64} {c : Nat} (h : md_cn b cap S = c) : md_at b w cap S = b + 1 + w * (c - 1) := by
  unfold md_at; rw [h]
/-- what a new record leaves -/
theorem md_comes_out {b w cap : Nat} {S : Nat → Int64} (j : Nat) (h : j < b ∨ b + 1 + w * (cap - 1) ≤ j) : md_comes b w cap (w * (cap - 1)) S j = S j := by
  unfold md_comes vp_updL
  rw [if_neg (by omega)]
  split
  · unfold md_down; rw [if_neg (by omega)]
  · rfl
def sI (i : Nat) : Nat := ([0, 5, 37, 38, 39, 6, 10, 14, 18, 22, 7, 11, 15, 19, 23, 8, 12, 16, 20, 24, 9, 13, 17, 21, 25, 1, 2, 3, 4, 41, 48, 45, 46, 47, 49, 51, 52, 59, 62] : List Nat).getD i 0
def sL (k : Nat) : Nat := ([40, 42, 43, 44, 50, 53, 54, 55, 56, 57, 58, 60, 61] : List Nat).getD k 0
def loI (i : Nat) : Int := ([0, 0, 0, 0, 0, 100, 0, 0, -634, 0, 100, 0, 0, -634, 0, 100, 0, 0, -634, 0, 100, 0, 0, -1134, 0, 0, 1, 0, 0, 0, 0, 0, 0, 0, 0, 0, 0, 0, 0] : List Int).getD i 0
def hiI (T : Int) (i : Nat) : Int := ([T, 23, 1, T, 30000, 30000, 8, 65535, 30000, 1, 30000, 8, 65535, 30000, 1, 30000, 8, 65535, 30000, 1, 30000, 8, 65535, 29500, 1, 1, 100000, 100000, 100000, 1, T, 1, 1000000000, 1000000000, 2, 31, T, T, T] : List Int).getD i 0
def relA (A : Nat → Nat → Int32) (S : Nat → Int64) : Prop := (∀ j, j < 6 → S (26 + j) = (A 0 j).toInt64) ∧ (∀ j, j < 6 → 1 ≤ (A 0 j).toInt ∧ (A 0 j).toInt ≤ 20000) ∧ (∀ j, j < 5 → S (32 + j) = (A 1 j).toInt64) ∧ (∀ j, j < 5 → 9000 ≤ (A 1 j).toInt ∧ (A 1 j).toInt ≤ 11000)
/-- the class's state and the reference's row say the same, and all lies in its bounds -/
def RX (T : Int) (x : XS) (S : Nat → Int64) : Prop :=
  (∀ i, i < 39 → S (sI i) = (x.1 i).toInt64) ∧ (∀ k, k < 13 → S (sL k) = x.2.1 k) ∧ (∀ i, i < 39 → loI i ≤ (x.1 i).toInt ∧ (x.1 i).toInt ≤ hiI T i)
  ∧ relA x.2.2.1 S ∧ relR 63 7 24 S (x.1 39) (x.1 40) (x.2.2.2 0) ∧ relR 232 4 5 S (x.1 41) (x.1 42) (x.2.2.2 1) ∧ relR 253 3 30 S (x.1 43) (x.1 44) (x.2.2.2 2)
theorem sI_inj : ∀ i, i < 39 → ∀ j, j < 39 → sI i = sI j → i = j := by decide
theorem sL_inj : ∀ i, i < 13 → ∀ j, j < 13 → sL i = sL j → i = j := by decide
theorem sI_sL : ∀ i, i < 39 → ∀ j, j < 13 → sI i ≠ sL j := by decide
theorem sI_out : ∀ i, i < 39 → sI i < 63 ∧ ¬ (26 ≤ sI i ∧ sI i < 37) := by decide
theorem sL_out : ∀ i, i < 13 → sL i < 63 ∧ ¬ (26 ≤ sL i ∧ sL i < 37) := by decide
theorem rg0 : rgOk 7 24 := Or.inl ⟨rfl, rfl⟩
theorem rg1 : rgOk 4 5 := Or.inr (Or.inl ⟨rfl, rfl⟩)
theorem rg2 : rgOk 3 30 := Or.inr (Or.inr ⟨rfl, rfl⟩)
theorem upd_at (f : Nat → Int32) (k : Nat) (v : Int32) : upd f k v k = v := by unfold upd; rw [if_pos rfl]
theorem upd_ne (f : Nat → Int32) {k j : Nat} (v : Int32) (h : ¬ j = k) : upd f k v j = f j := by unfold upd; rw [if_neg h]
theorem vpu_at (f : Nat → Int64) (k : Nat) (v : Int64) : vp_updL f k v k = v := by unfold vp_updL; rw [if_pos rfl]
theorem vpu_ne (f : Nat → Int64) {k j : Nat} (v : Int64) (h : ¬ j = k) : vp_updL f k v j = f j := by unfold vp_updL; rw [if_neg h]
theorem relA_congr {A : Nat → Nat → Int32} {S S' : Nat → Int64} (h : relA A S) (e : ∀ j, 26 ≤ j → j < 37 → S' j = S j) : relA A S' :=
  ⟨fun j hj => by rw [e _ (by omega) (by omega)]; exact h.1 j hj, h.2.1, fun j hj => by rw [e _ (by omega) (by omega)]; exact h.2.2.1 j hj, h.2.2.2⟩
def xI (x : XS) (i : Nat) (v : Int32) : XS := (upd x.1 i v, x.2)
def xL (x : XS) (k : Nat) (v : Int64) : XS := (x.1, vp_updL x.2.1 k v, x.2.2)
theorem RX_int {T : Int} {x : XS} {S : Nat → Int64} (h : RX T x S) (i : Nat) (hi : i < 39) (v : Int32) (w : Int64) (s : Nat) (hs : sI i = s) (hw : w = v.toInt64) (h0 : loI i ≤ v.toInt) (h1 : v.toInt ≤ hiI T i) : RX T (xI x i v) (vp_updL S s w) := by
  subst hs; subst hw
  obtain ⟨a, b, c, d, e0, e1, e2⟩ := h
  have ho := sI_out i hi
  refine ⟨fun j hj => ?_, fun k hk => ?_, fun j hj => ?_, relA_congr d (fun j h2 h3 => vpu_ne _ _ (by omega)), ?_, ?_, ?_⟩
  · by_cases z : j = i
    · subst z; rw [vpu_at]; show _ = (upd x.1 j v j).toInt64; rw [upd_at]
    · rw [vpu_ne _ _ (fun k => z (sI_inj j hj i hi k))]; show _ = (upd x.1 i v j).toInt64; rw [upd_ne _ _ z]; exact a j hj
  · rw [vpu_ne _ _ (fun z => sI_sL i hi k hk z.symm)]; exact b k hk
  · show loI j ≤ (upd x.1 i v j).toInt ∧ (upd x.1 i v j).toInt ≤ hiI T j
    by_cases z : j = i
    · subst z; rw [upd_at]; exact ⟨h0, h1⟩
    · rw [upd_ne _ _ z]; exact c j hj
  · show relR 63 7 24 _ (upd x.1 i v 39) (upd x.1 i v 40) _
    rw [upd_ne _ _ (by omega), upd_ne _ _ (by omega)]
    exact relR_congr rg0 e0 (fun j h2 h3 => vpu_ne _ _ (by omega))
  · show relR 232 4 5 _ (upd x.1 i v 41) (upd x.1 i v 42) _
    rw [upd_ne _ _ (by omega), upd_ne _ _ (by omega)]
    exact relR_congr rg1 e1 (fun j h2 h3 => vpu_ne _ _ (by omega))
  · show relR 253 3 30 _ (upd x.1 i v 43) (upd x.1 i v 44) _
    rw [upd_ne _ _ (by omega), upd_ne _ _ (by omega)]
    exact relR_congr rg2 e2 (fun j h2 h3 => vpu_ne _ _ (by omega))
theorem RX_long {T : Int} {x : XS} {S : Nat → Int64} (h : RX T x S) (i : Nat) (hi : i < 13) (v w : Int64) (s : Nat) (hs : sL i = s) (hw : w = v) : RX T (xL x i v) (vp_updL S s w) := by
  subst hs; subst hw
  obtain ⟨a, b, c, d, e0, e1, e2⟩ := h
  have ho := sL_out i hi
  refine ⟨fun j hj => ?_, fun k hk => ?_, c, relA_congr d (fun j h2 h3 => vpu_ne _ _ (by omega)), relR_congr rg0 e0 (fun j h2 h3 => vpu_ne _ _ (by omega)), relR_congr rg1 e1 (fun j h2 h3 => vpu_ne _ _ (by omega)), relR_congr rg2 e2 (fun j h2 h3 => vpu_ne _ _ (by omega))⟩
  · rw [vpu_ne _ _ (sI_sL j hj i hi)]; exact a j hj
  · by_cases z : k = i
    · subst z; rw [vpu_at]; show _ = vp_updL x.2.1 k w k; rw [vpu_at]
    · rw [vpu_ne _ _ (fun q => z (sL_inj k hk i hi q))]; show _ = vp_updL x.2.1 i w k; rw [vpu_ne _ _ z]; exact b k hk
theorem RX_mono {T U : Int} {x : XS} {S : Nat → Int64} (h : RX T x S) (hTU : T ≤ U) : RX U x S := by
  obtain ⟨a, b, c, d⟩ := h
  refine ⟨a, b, fun i hi => ⟨(c i hi).1, Int.le_trans (c i hi).2 ?_⟩, d⟩
  have : ∀ i, i < 39 → (hiI T i = T ∧ hiI U i = U) ∨ hiI T i = hiI U i := by
    intro i hi
    match i, hi with
    | 0, _ => exact Or.inl ⟨rfl, rfl⟩
    | 1, _ => exact Or.inr rfl
    | 2, _ => exact Or.inr rfl
    | 3, _ => exact Or.inl ⟨rfl, rfl⟩
    | 4, _ => exact Or.inr rfl
    | 5, _ => exact Or.inr rfl
    | 6, _ => exact Or.inr rfl
    | 7, _ => exact Or.inr rfl
    | 8, _ => exact Or.inr rfl
    | 9, _ => exact Or.inr rfl
    | 10, _ => exact Or.inr rfl
    | 11, _ => exact Or.inr rfl
    | 12, _ => exact Or.inr rfl
    | 13, _ => exact Or.inr rfl
    | 14, _ => exact Or.inr rfl
    | 15, _ => exact Or.inr rfl
    | 16, _ => exact Or.inr rfl
    | 17, _ => exact Or.inr rfl
    | 18, _ => exact Or.inr rfl
    | 19, _ => exact Or.inr rfl
    | 20, _ => exact Or.inr rfl
    | 21, _ => exact Or.inr rfl
    | 22, _ => exact Or.inr rfl
    | 23, _ => exact Or.inr rfl
    | 24, _ => exact Or.inr rfl
    | 25, _ => exact Or.inr rfl
    | 26, _ => exact Or.inr rfl
    | 27, _ => exact Or.inr rfl
    | 28, _ => exact Or.inr rfl
    | 29, _ => exact Or.inr rfl
    | 30, _ => exact Or.inl ⟨rfl, rfl⟩
    | 31, _ => exact Or.inr rfl
    | 32, _ => exact Or.inr rfl
    | 33, _ => exact Or.inr rfl
    | 34, _ => exact Or.inr rfl
    | 35, _ => exact Or.inr rfl
    | 36, _ => exact Or.inl ⟨rfl, rfl⟩
    | 37, _ => exact Or.inl ⟨rfl, rfl⟩
    | 38, _ => exact Or.inl ⟨rfl, rfl⟩
    | n + 39, h => exact absurd h (by omega)
  rcases this i hi with ⟨h1, h2⟩ | h1
  · rw [h1, h2]; exact hTU
  · rw [h1]; exact Int.le_refl _
/-- a ring's new content -/
theorem RX_ring2 {T : Int} {x : XS} {S S' : Nat → Int64} (h : RX T x S) (e : ∀ j, j < 253 → S' j = S j) (o n : Int32) (g : Nat → Int64) (hg : relR 253 3 30 S' o n g) : RX T (upd (upd x.1 43 o) 44 n, x.2.1, x.2.2.1, updB x.2.2.2 2 g) S' := by
  obtain ⟨a, b, c, d, e0, e1, e2⟩ := h
  have hu : ∀ j, j < 43 → upd (upd x.1 43 o) 44 n j = x.1 j := fun j hj => by rw [upd_ne _ _ (by omega), upd_ne _ _ (by omega)]
  refine ⟨fun j hj => ?_, fun k hk => ?_, fun j hj => ?_, relA_congr d (fun j h2 h3 => e j (by omega)), ?_, ?_, ?_⟩
  · show _ = (upd (upd x.1 43 o) 44 n j).toInt64
    rw [hu j (by omega), e _ (by have := sI_out j hj; omega)]; exact a j hj
  · rw [e _ (by have := sL_out k hk; omega)]; exact b k hk
  · show loI j ≤ (upd (upd x.1 43 o) 44 n j).toInt ∧ (upd (upd x.1 43 o) 44 n j).toInt ≤ hiI T j
    rw [hu j (by omega)]; exact c j hj
  · exact relR_congr rg0 e0 (fun j h2 h3 => e j (by omega))
  · exact relR_congr rg1 e1 (fun j h2 h3 => e j (by omega))
  · exact hg
theorem RX_ring1 {T : Int} {x : XS} {S S' : Nat → Int64} (h : RX T x S) (e : ∀ j, j < 232 ∨ 253 ≤ j → S' j = S j) (o n : Int32) (g : Nat → Int64) (hg : relR 232 4 5 S' o n g) : RX T (upd (upd x.1 41 o) 42 n, x.2.1, x.2.2.1, updB x.2.2.2 1 g) S' := by
  obtain ⟨a, b, c, d, e0, e1, e2⟩ := h
  have hu : ∀ j, j < 41 → upd (upd x.1 41 o) 42 n j = x.1 j := fun j hj => by rw [upd_ne _ _ (by omega), upd_ne _ _ (by omega)]
  refine ⟨fun j hj => ?_, fun k hk => ?_, fun j hj => ?_, relA_congr d (fun j h2 h3 => e j (by omega)), ?_, ?_, ?_⟩
  · show _ = (upd (upd x.1 41 o) 42 n j).toInt64
    rw [hu j (by omega), e _ (by have := sI_out j hj; omega)]; exact a j hj
  · rw [e _ (by have := sL_out k hk; omega)]; exact b k hk
  · show loI j ≤ (upd (upd x.1 41 o) 42 n j).toInt ∧ (upd (upd x.1 41 o) 42 n j).toInt ≤ hiI T j
    rw [hu j (by omega)]; exact c j hj
  · exact relR_congr rg0 e0 (fun j h2 h3 => e j (by omega))
  · exact hg
  · exact relR_congr rg2 e2 (fun j h2 h3 => e j (by omega))
theorem RX_ring0 {T : Int} {x : XS} {S S' : Nat → Int64} (h : RX T x S) (e : ∀ j, j < 63 ∨ 232 ≤ j → S' j = S j) (o n : Int32) (g : Nat → Int64) (hg : relR 63 7 24 S' o n g) : RX T (upd (upd x.1 39 o) 40 n, x.2.1, x.2.2.1, updB x.2.2.2 0 g) S' := by
  obtain ⟨a, b, c, d, e0, e1, e2⟩ := h
  have hu : ∀ j, j < 39 → upd (upd x.1 39 o) 40 n j = x.1 j := fun j hj => by rw [upd_ne _ _ (by omega), upd_ne _ _ (by omega)]
  refine ⟨fun j hj => ?_, fun k hk => ?_, fun j hj => ?_, relA_congr d (fun j h2 h3 => e j (by omega)), ?_, ?_, ?_⟩
  · show _ = (upd (upd x.1 39 o) 40 n j).toInt64
    rw [hu j (by omega), e _ (by have := sI_out j hj; omega)]; exact a j hj
  · rw [e _ (by have := sL_out k hk; omega)]; exact b k hk
  · show loI j ≤ (upd (upd x.1 39 o) 40 n j).toInt ∧ (upd (upd x.1 39 o) 40 n j).toInt ≤ hiI T j
    rw [hu j (by omega)]; exact c j hj
  · exact hg
  · exact relR_congr rg1 e1 (fun j h2 h3 => e j (by omega))
  · exact relR_congr rg2 e2 (fun j h2 h3 => e j (by omega))
/-- an event comes -/
def xG (x : XS) (q : Int32) (v : Int64) : XS := (upd (upd x.1 43 (f_X6_log_o1_3 (x.1 43) (x.1 44))) 44 (f_X6_log_o1_4 (x.1 44)), x.2.1, x.2.2.1, updB x.2.2.2 2 (f_X6_log_o2 (x.1 0) (x.1 43) (x.1 44) (x.2.2.2 2) q v))
theorem RX_log {T : Int} {x : XS} {S : Nat → Int64} (h : RX T x S) (q : Int32) (v : Int64) : RX T (xG x q v) (f_X10_logs_o1 S q v) := by
  obtain ⟨a, c, h3, h4, h5, h6⟩ := rg_add rg2 h.2.2.2.2.2.2
  have hat := md_at_eq (w := 3) h5
  have hc : 1 ≤ c ∧ c ≤ 30 := ⟨h6.2.1, h6.2.2.1⟩
  have hS0 : md_comes 253 3 30 87 S 0 = (x.1 0).toInt64 := by
    rw [md_comes_out (b := 253) (w := 3) (cap := 30) 0 (by omega)]; exact h.1 0 (by decide)
  have p1 := rg_put1 rg2 h6 (by decide) (x.1 0).toInt64
  have p2 := rg_put1 rg2 p1 (by decide) q.toInt64
  have p3 := rg_put1 rg2 p2 (by decide) v
  have p4 := relR_of p3
  have e3 : f_X6_log_o1_3 (x.1 43) (x.1 44) = nI a := h3
  have e4 : f_X6_log_o1_4 (x.1 44) = nI c := h4
  unfold xG f_X10_logs_o1
  rw [hS0, hat]
  have e5 : f_X6_log_o2 (x.1 0) (x.1 43) (x.1 44) (x.2.2.2 2) q v = f_X4_put_o1 90 30 3 (nI a) (nI c) (f_X4_put_o1 90 30 3 (nI a) (nI c) (f_X4_put_o1 90 30 3 (nI a) (nI c) (x.2.2.2 2) 0 (x.1 0).toInt64) 1 q.toInt64) 2 v := by
    rw [← h3, ← h4]; rfl
  rw [e3, e4, e5]
  refine RX_ring2 h (fun j hj => ?_) _ _ _ p4
  rw [vpu_ne _ _ (by omega), vpu_ne _ _ (by omega), vpu_ne _ _ (by omega)]
  exact md_comes_out (b := 253) (w := 3) (cap := 30) j (by omega)
/-- orders -/
theorem xI_comm {x : XS} {i j : Nat} (h : i ≠ j) (v w : Int32) : xI (xI x i v) j w = xI (xI x j w) i v := by
  unfold xI
  refine Prod.ext (funext fun k => ?_) rfl
  show upd (upd x.1 i v) j w k = upd (upd x.1 j w) i v k
  by_cases a : k = j
  · subst a; rw [upd_at, upd_ne _ _ (fun z => h z.symm), upd_at]
  · rw [upd_ne _ _ a]
    by_cases b : k = i
    · subst b; rw [upd_at, upd_at]
    · rw [upd_ne _ _ b, upd_ne _ _ b, upd_ne _ _ a]
theorem xG_I {x : XS} {i : Nat} (h0 : i ≠ 0) (h1 : i ≠ 43) (h2 : i ≠ 44) (v : Int32) (q : Int32) (u : Int64) : xG (xI x i v) q u = xI (xG x q u) i v := by
  have e0 : (xI x i v).1 0 = x.1 0 := upd_ne _ _ (fun z => h0 z.symm)
  have e1 : (xI x i v).1 43 = x.1 43 := upd_ne _ _ (fun z => h1 z.symm)
  have e2 : (xI x i v).1 44 = x.1 44 := upd_ne _ _ (fun z => h2 z.symm)
  have e3 : (xI x i v).2 = x.2 := rfl
  unfold xG
  rw [e0, e1, e2, e3]
  unfold xI
  refine Prod.ext (funext fun k => ?_) rfl
  show upd (upd (upd x.1 i v) 43 _) 44 _ k = upd (upd (upd x.1 43 _) 44 _) i v k
  by_cases a : k = 44
  · subst a; rw [upd_at, upd_ne _ _ (fun z => h2 z.symm), upd_at]
  · rw [upd_ne _ _ a]
    by_cases b : k = 43
    · subst b; rw [upd_at, upd_ne _ _ (fun z => h1 z.symm), upd_ne _ _ a, upd_at]
    · rw [upd_ne _ _ b]
      by_cases d : k = i
      · subst d; rw [upd_at, upd_at]
      · rw [upd_ne _ _ d, upd_ne _ _ d, upd_ne _ _ a, upd_ne _ _ b]
theorem xG_L {x : XS} {i : Nat} (v : Int64) (q : Int32) (u : Int64) : xG (xL x i v) q u = xL (xG x q u) i v := rfl
theorem xI_L {x : XS} {i j : Nat} (v : Int64) (w : Int32) : xI (xL x i v) j w = xL (xI x j w) i v := rfl
theorem upd_self (f : Nat → Int32) (k : Nat) : upd f k (f k) = f := by
  funext j; unfold upd; split
  · rename_i h; rw [h]
  · rfl
theorem updB_self (f : Nat → Nat → Int64) (k : Nat) : updB f k (f k) = f := by
  funext j; unfold updB; split
  · rename_i h; rw [h]
  · rfl
theorem xI_self (x : XS) (k : Nat) : xI x k (x.1 k) = x := by unfold xI; rw [upd_self]
/-- no event -/
theorem xG_none (f : Nat → Int32) (z : (Nat → Int64) × (Nat → Nat → Int32) × (Nat → Nat → Int64)) : ((upd (upd f 43 (f 43)) 44 (f 44), z.1, z.2.1, updB z.2.2 2 (z.2.2 2)) : XS) = (f, z) := by
  rw [upd_self, upd_self, updB_self]
