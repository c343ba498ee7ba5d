/-! THE START: what the tables and the premises give -/
theorem zs_str : ∀ q ∈ zStr, (Cond.stringRef q.1 q.2.1 q.2.2) ∈ lw_tbl ∧ (Cond.exactly (.string q.1 q.2.1) "java/lang/String") ∈ flatC (Jvm.Cond.and given_1 narrow_1) := by decide +kernel
theorem zs_nest : ∀ q ∈ zNest, (Cond.methodLinkNest q.1 q.2.1 q.2.2 "DryRiver") ∈ lw_tbl := by decide +kernel
theorem zs_ca : ∀ q ∈ zCa, (Cond.castable q.1 q.2) ∈ lw_tbl := by decide +kernel
theorem zs_nc : ∀ q ∈ zNc, (Cond.not (.castable q.1 q.2)) ∈ flatC (Jvm.Cond.and given_1 narrow_1) := by decide +kernel
theorem zs_u : (Cond.laysStatic Bundle.tN "UNASSIGNED_STACK" Bundle.steD) ∈ lw_tbl ∧ (Cond.laysStatic Bundle.tN "SUPPRESSED_SENTINEL" Bundle.listD) ∈ lw_tbl ∧ (Cond.initialized Bundle.tN) ∈ lw_tbl ∧ (Cond.arrayOver (.object "DryRiver$Town")) ∈ lw_tbl ∧ (Cond.arrayOver (.object "DryRiver$Log")) ∈ lw_tbl := by decide +kernel
theorem zs_n : (Cond.isRef (.static Bundle.tN "UNASSIGNED_STACK" Bundle.steD)) ∈ flatC (Jvm.Cond.and given_1 narrow_1) ∧ (Cond.isRef (.static Bundle.tN "SUPPRESSED_SENTINEL" Bundle.listD)) ∈ flatC (Jvm.Cond.and given_1 narrow_1) := by decide +kernel
theorem zs_th {s : State} {b : Nat} {A : Nat → Prop} (hts : ∀ w ∈ lw_tbl, w.before #[Value.ref b] s = true) (hgv : (Jvm.Cond.and given_1 narrow_1).before #[Value.ref b] s = true) (hAe : A = fun q => s.heap.size ≤ q) : zTh A s := by
  have hfl := flat_of_before _ hgv
  have hA : ∀ a : Nat, a < s.heap.size → ¬ A a := fun a h z => by rw [hAe] at z; exact Nat.not_le.mpr h z
  refine ⟨vx_Zqof (hts _ zs_u.1) (hts _ zs_u.2.2.1) (hfl _ zs_n.1) hA, vx_Zqof (hts _ zs_u.2.1) (hts _ zs_u.2.2.1) (hfl _ zs_n.2) hA, fun q hq => ?_, fun q hq => va_Nw.of rfl (hts _ (zs_nest q hq)), fun q hq => zCast.of (hts _ (zs_ca q hq)), fun q hq => va_Nc.of (hfl _ (zs_nc q hq)), va_AO.of (hts _ zs_u.2.2.2.1), va_AO.of (hts _ zs_u.2.2.2.2)⟩
  obtain ⟨h1, h2⟩ := zs_str q hq
  obtain ⟨a, c, cell, k, e, -⟩ := Cond.exactly_spec (hfl _ h2)
  exact ⟨a, vk_R.of (hts _ h1) e⟩
theorem zs_zB {s : State} {b : Nat} (hts : ∀ w ∈ lw_tbl, w.before #[Value.ref b] s = true) : ∀ w ∈ zB, w.before #[Value.ref b] s = true := fun w hw => hts w (List.mem_filter.mp hw).1
theorem zs_fl {l : Launch} (h : l.flags = flags0) : l.stackTraces = false := by
  unfold Launch.stackTraces
  rw [h]
  decide +kernel
theorem zs_arr {s : State} {b : Nat} {ty : FieldType} (h : (Cond.arrayClass ty).before #[Value.ref b] s = true) (hty : ∀ U cA, U.vm.findClass ("[" ++ ty.toString) = some cA → va_RA U cA ty) : ∃ cA : ClassId, ArrOfT s cA ty ∧ va_RA s cA ty := by
  obtain ⟨c, k, comp, h1, h2, h3⟩ := Cond.arrayClass_spec h
  exact ⟨c, fun n z => ⟨fun k h => (by cases h), k, h2, comp, h3⟩, hty s c h1⟩
theorem zs_cls {s : State} {b : Nat} (hts : ∀ w ∈ zB, w.before #[Value.ref b] s = true) : ∃ D : va_G, ∀ (k : Nat) (q : vw_C), vwCl[k]? = some q → u_Kn s q.1 q.2.1 q.2.2 (D.1 k) (D.2 k) := by
  obtain ⟨c0, i0, K0⟩ := u_known (C := RX0) (T := TX0) (N := 3) (n := 3) hts izRX0 (hts _ k553)
  obtain ⟨c1, i1, K1⟩ := u_known (C := RX1) (T := TX1) (N := 6) (n := 6) hts izRX1 (hts _ k209)
  obtain ⟨c2, i2, K2⟩ := u_known (C := RX2) (T := TX2) (N := 2) (n := 2) hts izRX2 (hts _ k547)
  obtain ⟨c3, i3, K3⟩ := u_known (C := RX3) (T := TX3) (N := 3) (n := 3) hts izRX3 (hts _ k355)
  obtain ⟨c4, i4, K4⟩ := u_known (C := RX4) (T := TX4) (N := 8) (n := 8) hts izRX4 (hts _ k550)
  obtain ⟨c5, i5, K5⟩ := u_known (C := RX5) (T := TX5) (N := 3) (n := 3) hts izRX5 (hts _ k556)
  obtain ⟨c6, i6, K6⟩ := u_known (C := RX6) (T := TX6) (N := 7) (n := 7) hts izRX6 (hts _ k535)
  obtain ⟨c7, i7, K7⟩ := u_known (C := RX9) (T := TX9) (N := 19) (n := 19) hts izRX9 (hts _ k23)
  obtain ⟨c8, i8, K8⟩ := u_known (C := RX10) (T := TX10) (N := 2) (n := 2) hts izRX10 (hts _ k544)
  obtain ⟨c9, i9, K9⟩ := u_known (C := RX11) (T := TX11) (N := 10) (n := 10) hts izRX11 (hts _ k1293)
  obtain ⟨c10, i10, K10⟩ := u_known (C := RX12) (T := TX12) (N := 20) (n := 20) hts izRX12 (hts _ k1295)
  refine ⟨(fun k => match k with | 0 => c0 | 1 => c1 | 2 => c2 | 3 => c3 | 4 => c4 | 5 => c5 | 6 => c6 | 7 => c7 | 8 => c8 | 9 => c9 | _ => c10, fun k => match k with | 0 => i0 | 1 => i1 | 2 => i2 | 3 => i3 | 4 => i4 | 5 => i5 | 6 => i6 | 7 => i7 | 8 => i8 | 9 => i9 | _ => i10), ?_⟩
  intro k q hq
  match k, hq with
  | 0, hq => cases hq; exact K0
  | 1, hq => cases hq; exact K1
  | 2, hq => cases hq; exact K2
  | 3, hq => cases hq; exact K3
  | 4, hq => cases hq; exact K4
  | 5, hq => cases hq; exact K5
  | 6, hq => cases hq; exact K6
  | 7, hq => cases hq; exact K7
  | 8, hq => cases hq; exact K8
  | 9, hq => cases hq; exact K9
  | 10, hq => cases hq; exact K10
  | k + 11, hq => simp [vwCl] at hq
theorem zs_ov {s : State} {b : Nat} {C : String} (h : (Cond.arrayOver (.object C)).before #[Value.ref b] s = true) : ∃ cA : ClassId, ArrOfT s cA (.object C) ∧ va_RA s cA (.object C) := by
  obtain ⟨comp, c, k, h1, h2, h3, h4, h5⟩ := Cond.arrayOver_spec h
  exact ⟨c, fun n z => ⟨fun k h => (by cases h), k, h3, comp, h4⟩, k, comp, h3, h4, h1, h5⟩
