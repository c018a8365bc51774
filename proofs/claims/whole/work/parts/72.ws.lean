theorem whole_start {p : Program} {e : Env} {s : State} {m : MethodId} {below : List Frame} {meth : Method} {c : Code} (l : Launch) (hflags : l.flags = flags0) {b L : Nat} {xs : Nat → Int32} (hL : L ≤ 2048) (C0 : lw_At p s m meth c b L xs) : W p l e room_1 s m #[Value.ref b] below meth c s.heap [] 0 0 (lw_Z below #[Value.ref b] s) (entryFrame m ([Value.ref b] : List Value).toArray 8) := by
  obtain ⟨hx, hb, hr, hml, hown, hts, hX, hbl, hlocks, hgv⟩ := id C0
  obtain ⟨D, A2, hK⟩ := lz_K hts
  obtain ⟨t0, t1, hFs⟩ := lz_F hts hgv
  have hbA : ¬ (fun q : Nat => s.heap.size ≤ q) b := Nat.not_le.mpr hbl
  obtain ⟨C, hC⟩ : ∃ C : sw_C, C = (p, l, e, room_1, s, m, #[Value.ref b], below, meth, c, fun q : Nat => s.heap.size ≤ q, 8, lw_Z below #[Value.ref b] s) := ⟨_, rfl⟩
  have F : sw_H (D, A2, (t0, t1)) C cL_law RL wsL_law := by
    rw [hC]
    exact ⟨hx, hb, hown, fun w hw => hts w (wsL_law_in w hw), hml, hlocks, hK (t0, t1), fun q h => h, hFs D A2, lz_N hts⟩
  have hF : LF (D, A2, (t0, t1)) C l b L xs := by
    rw [hC]
    exact ⟨rfl, rfl, rfl, lz_Y hts hgv, hX, hbl, hbA⟩
  have hst : l.stackTraces = false := by
    unfold Launch.stackTraces
    rw [hflags]
    decide +kernel
  have hE : ∀ (k n : Nat) (ws : va_W) (lv : List (Nat × Value)), k ≤ 601024 → n ≤ 7293033 → SW (D, A2, (t0, t1)) C k n ws lv 1589 [.int 1] := by
    rw [hC]
    exact fun k n ws lv hk hn H locs ls hP hD hS hl => W.widen hk hn (va_forget hS.2.2 (lw_ret hx hb hr hlocks dL_law_1589))
  have hgo := lo_start F hF hst hL hE
  rw [hC] at hgo
  have hl := lv_entry ([.ref b]) (n := 8) (Nat.le_of_ble_eq_true rfl)
  rw [lg_entry_eq]
  generalize (lg_sl ([.ref b]) ++ List.replicate (8 - (lg_sl ([.ref b])).length) Slot.unset).toArray = ls at hl ⊢
  exact hgo s.heap [] ls (fun k q h => by simp at h) ⟨fun i j p q h => by simp at h, fun k q h => by simp at h⟩ va_S.rf hl
