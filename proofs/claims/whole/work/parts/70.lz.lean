/-! ===== THE LAW'S START: what the tables and the given words say ===== -/
theorem lz_nM : ∀ q ∈ sw_nestM, Cond.methodLinkNest q.1 q.2.1 q.2.2 RX9 ∈ lw_tbl := by decide +kernel
theorem lz_nF : ∀ q ∈ sw_nestF, Cond.fieldLinkNest RX3 q.1 RX9 q.2 "[I" RX9 ∈ lw_tbl := by decide +kernel
theorem lz_s0 : Cond.laysStatic RX9 "DENSITY_TEMPERATURES" "[I" ∈ lw_tbl := by decide +kernel
theorem lz_s1 : Cond.laysStatic RX9 "FACTOR_FLOWS" "[I" ∈ lw_tbl := by decide +kernel
theorem lz_s2 : Cond.laysStatic Bundle.tN "UNASSIGNED_STACK" Bundle.steD ∈ lw_tbl := by decide +kernel
theorem lz_s3 : Cond.laysStatic Bundle.tN "SUPPRESSED_SENTINEL" Bundle.listD ∈ lw_tbl := by decide +kernel
theorem lz_i0 : Cond.initialized RX9 ∈ lw_tbl := by decide +kernel
theorem lz_i1 : Cond.initialized Bundle.tN ∈ lw_tbl := by decide +kernel
theorem lz_a0 : Cond.arrayClass .int ∈ lw_tbl := by decide +kernel
theorem lz_a1 : Cond.arrayClass .long ∈ lw_tbl := by decide +kernel
theorem lz_b : ∀ w ∈ sx_B, w ∈ lw_tbl := by decide +kernel
section LZ
variable {s : State} {b : Nat}
theorem lz_arr {ty : FieldType} (hp : ∀ C, ty ≠ .object C) (h : (Cond.arrayClass ty).before #[Value.ref b] s = true) : ∃ cA : ClassId, ArrOfT s cA ty ∧ va_RA s cA ty := by
  obtain ⟨c, k, comp, h1, h2, h3⟩ := Cond.arrayClass_spec h
  refine ⟨c, fun n z => ⟨fun k h => (by cases h), k, h2, comp, h3⟩, ?_⟩
  · cases ty with
    | object C => exact absurd rfl (hp C)
    | _ => exact h1
theorem lz_N (hts : ∀ w ∈ lw_tbl, w.before #[Value.ref b] s = true) : sw_N s :=
  ⟨fun q hq => va_Nw.of rfl (hts _ (lz_nM q hq)), fun q hq => va_Nw.of rfl (hts _ (lz_nF q hq))⟩
theorem lz_Y (hts : ∀ w ∈ lw_tbl, w.before #[Value.ref b] s = true) (hgv : (Jvm.Cond.and given_1 narrow_1).before #[Value.ref b] s = true) : sy_N s := by
  have hs := flat_of_before _ hgv
  refine ⟨fun w hw => va_tabs (sx_ot (sx_B_dc w hw)) rfl (hts w (lz_b w hw)), ?_, ?_⟩
  · exact va_Nc.of (hs (Cond.not (.castable sx_IA sx_IO)) (by decide +kernel))
  · exact va_Nc.of (hs (Cond.not (.castable sx_IS sx_IA)) (by decide +kernel))
theorem lz_F (hts : ∀ w ∈ lw_tbl, w.before #[Value.ref b] s = true) (hgv : (Jvm.Cond.and given_1 narrow_1).before #[Value.ref b] s = true) : ∃ t0 t1 : Nat, ∀ (D : va_G) (A2 : ClassId × ClassId), sw_F (D, A2, (t0, t1)) (fun q => s.heap.size ≤ q) s s.heap := by
  have hs := flat_of_before _ hgv
  have hA : ∀ a : Nat, a < s.heap.size → ¬ (fun q : Nat => s.heap.size ≤ q) a := fun a h z => absurd z (Nat.not_le.mpr h)
  obtain ⟨t0, e0, T0⟩ := va_Tof (tm := Term.static RX9 "DENSITY_TEMPERATURES" "[I") (ty := .int) (N := 6) (f := sw_dt) (by decide) (hs _ (by decide +kernel)) (va_eqt (z := 6) (hs _ (by decide +kernel))) (fun j hj => by
    match j, hj with
    | 0, _ => exact va_eqt (z := -200) (hs _ (by decide +kernel))
    | 1, _ => exact va_eqt (z := 0) (hs _ (by decide +kernel))
    | 2, _ => exact va_eqt (z := 200) (hs _ (by decide +kernel))
    | 3, _ => exact va_eqt (z := 400) (hs _ (by decide +kernel))
    | 4, _ => exact va_eqt (z := 600) (hs _ (by decide +kernel))
    | 5, _ => exact va_eqt (z := 800) (hs _ (by decide +kernel))
    | n + 6, h => exact absurd h (by omega)) hA
  obtain ⟨t1, e1, T1⟩ := va_Tof (tm := Term.static RX9 "FACTOR_FLOWS" "[I") (ty := .int) (N := 5) (f := sw_ft) (by decide) (hs _ (by decide +kernel)) (va_eqt (z := 5) (hs _ (by decide +kernel))) (fun j hj => by
    match j, hj with
    | 0, _ => exact va_eqt (z := 0) (hs _ (by decide +kernel))
    | 1, _ => exact va_eqt (z := 1000) (hs _ (by decide +kernel))
    | 2, _ => exact va_eqt (z := 3000) (hs _ (by decide +kernel))
    | 3, _ => exact va_eqt (z := 10000) (hs _ (by decide +kernel))
    | 4, _ => exact va_eqt (z := 30000) (hs _ (by decide +kernel))
    | n + 5, h => exact absurd h (by omega)) hA
  refine ⟨t0, t1, fun D A2 => ⟨va_Zof (hts _ lz_s0) (hts _ lz_i0) e0 hA, va_Zof (hts _ lz_s1) (hts _ lz_i0) e1 hA, T0, T1, ?_, ?_⟩⟩
  · exact vx_Zqof (hts _ lz_s2) (hts _ lz_i1) (hs (Cond.isRef (.static Bundle.tN "UNASSIGNED_STACK" Bundle.steD)) (by decide +kernel)) hA
  · exact vx_Zqof (hts _ lz_s3) (hts _ lz_i1) (hs (Cond.isRef (.static Bundle.tN "SUPPRESSED_SENTINEL" Bundle.listD)) (by decide +kernel)) hA
theorem lz_K (hts : ∀ w ∈ lw_tbl, w.before #[Value.ref b] s = true) : ∃ (D : va_G) (A2 : ClassId × ClassId), ∀ t : Nat × Nat, va_K D vwCl (sw_TY (D, A2, t)) s := by
  obtain ⟨c0, i0, k0⟩ := u_known (C := RX0) (T := TX0) (N := 6) (n := 6) hts inX0 (hts (.instantiable RX0 6) (by decide +kernel))
  obtain ⟨c1, i1, k1⟩ := u_known (C := RX1) (T := TX1) (N := 3) (n := 3) hts inX1 (hts (.instantiable RX1 3) (by decide +kernel))
  obtain ⟨c2, i2, k2⟩ := u_known (C := RX2) (T := TX2) (N := 3) (n := 3) hts inX2 (hts (.instantiable RX2 3) (by decide +kernel))
  obtain ⟨c3, i3, k3⟩ := u_known (C := RX3) (T := TX3) (N := 4) (n := 4) hts inX3 (hts (.instantiable RX3 4) (by decide +kernel))
  obtain ⟨c4, i4, k4⟩ := u_known (C := RX4) (T := TX4) (N := 5) (n := 5) hts inX4 (hts (.instantiable RX4 5) (by decide +kernel))
  obtain ⟨c5, i5, k5⟩ := u_known (C := RX5) (T := TX5) (N := 4) (n := 4) hts inX5 (hts (.instantiable RX5 4) (by decide +kernel))
  obtain ⟨c6, i6, k6⟩ := u_known (C := RX6) (T := TX6) (N := 20) (n := 20) hts inX6 (hts (.instantiable RX6 20) (by decide +kernel))
  obtain ⟨c7, i7, k7⟩ := u_known (C := RX7) (T := TX7) (N := 4) (n := 4) hts inX7 (hts (.instantiable RX7 4) (by decide +kernel))
  obtain ⟨c8, i8, k8⟩ := u_known (C := RX8) (T := TX8) (N := 6) (n := 6) hts inX8 (hts (.instantiable RX8 6) (by decide +kernel))
  obtain ⟨c9, i9, k9⟩ := u_known (C := RX9) (T := TX9) (N := 5) (n := 5) hts inX9 (hts (.instantiable RX9 5) (by decide +kernel))
  obtain ⟨c10, i10, k10⟩ := u_known (C := RX10) (T := TX10) (N := 5) (n := 5) hts inX10 (hts (.instantiable RX10 5) (by decide +kernel))
  obtain ⟨cI, a0, r0⟩ := lz_arr (ty := .int) (fun C h => by cases h) (hts _ lz_a0)
  obtain ⟨cJ, a1, r1⟩ := lz_arr (ty := .long) (fun C h => by cases h) (hts _ lz_a1)
  refine ⟨(fun k => match k with | 0 => c0 | 1 => c1 | 2 => c2 | 3 => c3 | 4 => c4 | 5 => c5 | 6 => c6 | 7 => c7 | 8 => c8 | 9 => c9 | _ => c10, fun k => match k with | 0 => i0 | 1 => i1 | 2 => i2 | 3 => i3 | 4 => i4 | 5 => i5 | 6 => i6 | 7 => i7 | 8 => i8 | 9 => i9 | _ => i10), (cI, cJ), fun t => ⟨fun k q hq => ?_, fun k q hq => ?_⟩⟩
  · match k, hq with
    | 0, hq => cases hq; exact k0
    | 1, hq => cases hq; exact k1
    | 2, hq => cases hq; exact k2
    | 3, hq => cases hq; exact k3
    | 4, hq => cases hq; exact k4
    | 5, hq => cases hq; exact k5
    | 6, hq => cases hq; exact k6
    | 7, hq => cases hq; exact k7
    | 8, hq => cases hq; exact k8
    | 9, hq => cases hq; exact k9
    | 10, hq => cases hq; exact k10
    | n + 11, hq => simp [vwCl] at hq
  · match k, hq with
    | 0, hq => cases hq; exact ⟨a0, r0⟩
    | 1, hq => cases hq; exact ⟨a1, r1⟩
    | n + 2, hq => simp [sw_TY] at hq
end LZ
