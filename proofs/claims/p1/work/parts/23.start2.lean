theorem zs_ov {s : State} {b : Nat} {C : String} (h : (Cond.arrayOver (.object C)).before #[Value.ref b] s = true) : ∃ cA : ClassId, ArrOfT s cA (.object C) ∧ va_RA s cA (.object C) := by
  obtain ⟨comp, c, k, h1, h2, h3, h4, h5⟩ := Cond.arrayOver_spec h
  exact ⟨c, fun n z => ⟨fun k h => (by cases h), k, h3, comp, h4⟩, k, comp, h3, h4, h1, h5⟩
set_option maxRecDepth 100000 in
set_option maxHeartbeats 8000000 in
/-- THE LAW, from its entry -/
theorem whole_start {p : Program} {e : Env} {s : State} {m : MethodId} {below : List Frame} {meth : Method} {c : Code} (l : Launch) (hflags : l.flags = flags0) {b L : Nat} {xs : Nat → Int32} (hL : L ≤ 6) (C0 : lw_At p s m meth c b L xs) : W p l e room_1 s m #[Value.ref b] below meth c s.heap [] 0 0 (lw_Z below #[Value.ref b] s) (entryFrame m ([Value.ref b] : List Value).toArray 7) := by
  obtain ⟨hx, hb, hr, hml, hown, htl, hX, hbl, hlocks, hgv⟩ := id C0
  have hfl := zs_fl hflags
  have hts := zs_zB htl
  obtain ⟨A, hAe⟩ : ∃ A : Nat → Prop, A = fun q => s.heap.size ≤ q := ⟨_, rfl⟩
  have hA : ∀ q, s.heap.size ≤ q → A q := fun q h => by rw [hAe]; exact h
  have hbA : ¬ A b := fun h => by rw [hAe] at h; exact Nat.not_le.mpr hbl h
  have hT := zs_th htl hgv hAe
  obtain ⟨D, hKc⟩ := zs_cls hts
  obtain ⟨aI, rI⟩ := zs_arr (ty := .int) (hts _ k8) (fun U cA h => h)
  obtain ⟨aZ, rZ⟩ := zs_arr (ty := .boolean) (hts _ k13) (fun U cA h => h)
  obtain ⟨aJ, rJ⟩ := zs_arr (ty := .long) (hts _ k1294) (fun U cA h => h)
  obtain ⟨aT, rT⟩ := zs_ov (htl _ zs_u.2.2.2.1)
  obtain ⟨aL, rL⟩ := zs_ov (htl _ zs_u.2.2.2.2)
  obtain ⟨g, hK⟩ : ∃ g : zG, zK g s := by
    refine ⟨(D, fun k => match k with | 0 => aI | 1 => aZ | 2 => aJ | 3 => aT | _ => aL), hKc, ?_⟩
    intro k q hq
    match k, hq with
    | 0, hq => cases hq; exact rI
    | 1, hq => cases hq; exact rZ
    | 2, hq => cases hq; exact rJ
    | 3, hq => cases hq; exact rT
    | 4, hq => cases hq; exact rL
    | k + 5, hq => simp [zT] at hq
  have St : CallFix p m c cL_law_ 7 s #[Value.ref b] zB RL := ⟨hx, hb, hml, hown, hts⟩
  have hS : va_S A s.heap s.heap [] := va_S.rf
  have hP : va_P g.1 vwCl (List.flatten ([] : List va_W)) s.heap := fun k q h => by simp at h
  have hD : va_D A (List.flatten ([] : List va_W)) := ⟨fun i j p q h => by simp at h, fun k q h => by simp at h⟩
  have hl := lv_entry ([.ref b]) (n := 7) (Nat.le_of_ble_eq_true rfl)
  rw [lg_entry_eq]
  generalize (lg_sl ([.ref b]) ++ List.replicate (7 - (lg_sl ([.ref b])).length) Slot.unset).toArray = ls at hl ⊢
  have hl : lv_has ls 7 [(0, .ref b)] := hl
  refine znew (g := g) (ci := 9) (fs := [.null, .null, .null, .null, .null, .null, .null, .null, .null, .int 0]) (C := RX11) (T := TX11) (N := 10) hx hb hts izRX11 tyX11 tyX11_ok hown (hts _ k1290) (hts _ k1291) (hts _ k595) hK hP hD hS hA rfl (fun j hj => by rcases (show j = 0 ∨ j = 1 ∨ j = 2 ∨ j = 3 ∨ j = 4 ∨ j = 5 ∨ j = 6 ∨ j = 7 ∨ j = 8 ∨ j = 9 by omega) with rfl | rfl | rfl | rfl | rfl | rfl | rfl | rfl | rfl | rfl <;> rfl) (Nat.le_of_ble_eq_true rfl) (Nat.le_of_ble_eq_true rfl) dL_law__0 (fun q1 H hP hD hS => ?_)
  have hP : va_P g.1 vwCl (List.flatten [[(q1, .inr (9, [.null, .null, .null, .null, .null, .null, .null, .null, .null, .int 0]))]]) H := hP
  have hD : va_D A (List.flatten [[(q1, .inr (9, [.null, .null, .null, .null, .null, .null, .null, .null, .null, .int 0]))]]) := hD
  refine W.widen (k := 1) (n := 10) (Nat.le_of_ble_eq_true rfl) (Nat.le_of_ble_eq_true rfl) ?_
  refine lv_dup hx hb dL_law__3 rfl ?_
  refine mcallI (g := g) (As := []) (rest := [.ref q1]) St hK hT hA hP hD hS hl.1 [0] [] rfl rfl rfl (c_DR_init l g q1 ) (cwI 0 hts (zgI k543) rfl rfl rfl (hts _ k595) (hts _ k1295) (hts _ k1296) rfl (by decide +kernel) ⟨Nat.le_of_ble_eq_true rfl, Nat.le_of_ble_eq_true rfl⟩) rfl rfl (Nat.le_of_ble_eq_true rfl) dL_law__4 ⟨(Nat.le_of_ble_eq_true rfl), (Nat.le_of_ble_eq_true rfl)⟩ (fun u_ H locs hq36 hP hD hS => ?_)
  obtain ⟨ta_2, o_3, lo_4, go_5, tt_6, lt_7, mo_8, fo_9, ro_10, ab_11, ac_12, ar_13, td_14, a_15, tda_16, ldr_17, lda_18, qT_19, qL_20, it_21, il_22, ig_23, fT_24, fL_25, ia_26, ic_27, ir_28, t0_29, ta0_30, l0_31, la0_32, od_33, ad_34, af_35⟩ := u_
  have hq36 : fT_24 0 = some t0_29 ∧ fL_25 0 = some l0_31 := hq36
  have hP : va_P g.1 vwCl (List.flatten [bDR g q1 ta_2 o_3 lo_4 go_5 tt_6 lt_7 mo_8 fo_9 ro_10 (-1), bTape g ta_2 ab_11 0 0 0 0 0 (-1) (fun _ => 0), bTown g o_3 a_15 0 0 0 20 6 50 0 1 (fun _ _ => 0), bLaw g lo_4 ac_12 0 (-1) 0 0 0 (fun _ => 0), bLog g go_5 ar_13 0 0 (fun _ => 0), [(tt_6, .inr (8, [.ref ta_2, .ref td_14]))], bTown g td_14 tda_16 0 0 0 20 6 50 0 1 (fun _ _ => 0), [(lt_7, .inr (2, [.ref ta_2, .ref ldr_17]))], bLaw g ldr_17 lda_18 0 (-1) 0 0 0 (fun _ => 0), bMem g mo_8 qT_19 qL_20 it_21 il_22 ig_23 0 0 0 fT_24 fL_25, bTown g it_21 ia_26 0 0 0 20 6 50 0 1 (fun _ _ => 0), bLaw g il_22 ic_27 0 (-1) 0 0 0 (fun _ => 0), bLog g ig_23 ir_28 0 0 (fun _ => 0), bTown g t0_29 ta0_30 0 0 0 20 6 50 0 1 (fun _ _ => 0), bLog g l0_31 la0_32 0 0 (fun _ => 0), [(fo_9, .inr (0, [.ref o_3, .ref lo_4, .ref od_33]))], bTown g od_33 ad_34 0 0 0 20 6 50 0 1 (fun _ _ => 0), bRid g ro_10 af_35 0 0 (fun _ => 0)]) H := hP
  have hD : va_D A (List.flatten [bDR g q1 ta_2 o_3 lo_4 go_5 tt_6 lt_7 mo_8 fo_9 ro_10 (-1), bTape g ta_2 ab_11 0 0 0 0 0 (-1) (fun _ => 0), bTown g o_3 a_15 0 0 0 20 6 50 0 1 (fun _ _ => 0), bLaw g lo_4 ac_12 0 (-1) 0 0 0 (fun _ => 0), bLog g go_5 ar_13 0 0 (fun _ => 0), [(tt_6, .inr (8, [.ref ta_2, .ref td_14]))], bTown g td_14 tda_16 0 0 0 20 6 50 0 1 (fun _ _ => 0), [(lt_7, .inr (2, [.ref ta_2, .ref ldr_17]))], bLaw g ldr_17 lda_18 0 (-1) 0 0 0 (fun _ => 0), bMem g mo_8 qT_19 qL_20 it_21 il_22 ig_23 0 0 0 fT_24 fL_25, bTown g it_21 ia_26 0 0 0 20 6 50 0 1 (fun _ _ => 0), bLaw g il_22 ic_27 0 (-1) 0 0 0 (fun _ => 0), bLog g ig_23 ir_28 0 0 (fun _ => 0), bTown g t0_29 ta0_30 0 0 0 20 6 50 0 1 (fun _ _ => 0), bLog g l0_31 la0_32 0 0 (fun _ => 0), [(fo_9, .inr (0, [.ref o_3, .ref lo_4, .ref od_33]))], bTown g od_33 ad_34 0 0 0 20 6 50 0 1 (fun _ _ => 0), bRid g ro_10 af_35 0 0 (fun _ => 0)]) := hD
  refine W.widen (k := 237) (n := 7815) (Nat.le_of_ble_eq_true rfl) (Nat.le_of_ble_eq_true rfl) ?_
  refine W.eq (g2 := F0 m 7 ls [.ref q1]) rfl ?_
  refine lv_astore_n (lv' := [(1, .ref q1), (0, .ref b)]) hx hb dL_law__7 rfl hl (by decide) rfl (fun ls hl => ?_)
  refine znew (g := g) (ci := 10) (fs := [.int 0, .null, .null, .int 0, .null, .null, .int 0, .null, .int 0, .int 0, .int 0, .int 0, .int 0, .int 0, .null, .int 0, .int 0, .int 0, .null, .null]) (C := RX12) (T := TX12) (N := 20) hx hb hts izRX12 tyX12 tyX12_ok hown (hts _ k1292) (hts _ k1293) (hts _ k833) hK hP hD hS hA rfl (fun j hj => by rcases (show j = 0 ∨ j = 1 ∨ j = 2 ∨ j = 3 ∨ j = 4 ∨ j = 5 ∨ j = 6 ∨ j = 7 ∨ j = 8 ∨ j = 9 ∨ j = 10 ∨ j = 11 ∨ j = 12 ∨ j = 13 ∨ j = 14 ∨ j = 15 ∨ j = 16 ∨ j = 17 ∨ j = 18 ∨ j = 19 by omega) with rfl | rfl | rfl | rfl | rfl | rfl | rfl | rfl | rfl | rfl | rfl | rfl | rfl | rfl | rfl | rfl | rfl | rfl | rfl | rfl <;> rfl) (Nat.le_of_ble_eq_true rfl) (Nat.le_of_ble_eq_true rfl) dL_law__8 (fun q37 H hP hD hS => ?_)
  have hP : va_P g.1 vwCl (List.flatten [bDR g q1 ta_2 o_3 lo_4 go_5 tt_6 lt_7 mo_8 fo_9 ro_10 (-1), bTape g ta_2 ab_11 0 0 0 0 0 (-1) (fun _ => 0), bTown g o_3 a_15 0 0 0 20 6 50 0 1 (fun _ _ => 0), bLaw g lo_4 ac_12 0 (-1) 0 0 0 (fun _ => 0), bLog g go_5 ar_13 0 0 (fun _ => 0), [(tt_6, .inr (8, [.ref ta_2, .ref td_14]))], bTown g td_14 tda_16 0 0 0 20 6 50 0 1 (fun _ _ => 0), [(lt_7, .inr (2, [.ref ta_2, .ref ldr_17]))], bLaw g ldr_17 lda_18 0 (-1) 0 0 0 (fun _ => 0), bMem g mo_8 qT_19 qL_20 it_21 il_22 ig_23 0 0 0 fT_24 fL_25, bTown g it_21 ia_26 0 0 0 20 6 50 0 1 (fun _ _ => 0), bLaw g il_22 ic_27 0 (-1) 0 0 0 (fun _ => 0), bLog g ig_23 ir_28 0 0 (fun _ => 0), bTown g t0_29 ta0_30 0 0 0 20 6 50 0 1 (fun _ _ => 0), bLog g l0_31 la0_32 0 0 (fun _ => 0), [(fo_9, .inr (0, [.ref o_3, .ref lo_4, .ref od_33]))], bTown g od_33 ad_34 0 0 0 20 6 50 0 1 (fun _ _ => 0), bRid g ro_10 af_35 0 0 (fun _ => 0), [(q37, .inr (10, [.int 0, .null, .null, .int 0, .null, .null, .int 0, .null, .int 0, .int 0, .int 0, .int 0, .int 0, .int 0, .null, .int 0, .int 0, .int 0, .null, .null]))]]) H := hP
  have hD : va_D A (List.flatten [bDR g q1 ta_2 o_3 lo_4 go_5 tt_6 lt_7 mo_8 fo_9 ro_10 (-1), bTape g ta_2 ab_11 0 0 0 0 0 (-1) (fun _ => 0), bTown g o_3 a_15 0 0 0 20 6 50 0 1 (fun _ _ => 0), bLaw g lo_4 ac_12 0 (-1) 0 0 0 (fun _ => 0), bLog g go_5 ar_13 0 0 (fun _ => 0), [(tt_6, .inr (8, [.ref ta_2, .ref td_14]))], bTown g td_14 tda_16 0 0 0 20 6 50 0 1 (fun _ _ => 0), [(lt_7, .inr (2, [.ref ta_2, .ref ldr_17]))], bLaw g ldr_17 lda_18 0 (-1) 0 0 0 (fun _ => 0), bMem g mo_8 qT_19 qL_20 it_21 il_22 ig_23 0 0 0 fT_24 fL_25, bTown g it_21 ia_26 0 0 0 20 6 50 0 1 (fun _ _ => 0), bLaw g il_22 ic_27 0 (-1) 0 0 0 (fun _ => 0), bLog g ig_23 ir_28 0 0 (fun _ => 0), bTown g t0_29 ta0_30 0 0 0 20 6 50 0 1 (fun _ _ => 0), bLog g l0_31 la0_32 0 0 (fun _ => 0), [(fo_9, .inr (0, [.ref o_3, .ref lo_4, .ref od_33]))], bTown g od_33 ad_34 0 0 0 20 6 50 0 1 (fun _ _ => 0), bRid g ro_10 af_35 0 0 (fun _ => 0), [(q37, .inr (10, [.int 0, .null, .null, .int 0, .null, .null, .int 0, .null, .int 0, .int 0, .int 0, .int 0, .int 0, .int 0, .null, .int 0, .int 0, .int 0, .null, .null]))]]) := hD
  refine W.widen (k := 238) (n := 7835) (Nat.le_of_ble_eq_true rfl) (Nat.le_of_ble_eq_true rfl) ?_
  refine lv_dup hx hb dL_law__11 rfl ?_
  refine mcallI (g := g) (As := []) (rest := [.ref q37]) St hK hT hA hP hD hS hl.1 [18] [0, 1, 2, 3, 4, 5, 6, 7, 8, 9, 10, 11, 12, 13, 14, 15, 16, 17] rfl rfl rfl (m_init l g q37 ) (cwI 0 hts (zgI k813) rfl rfl rfl (hts _ k833) (hts _ k1297) (hts _ k1298) rfl (by decide +kernel) ⟨Nat.le_of_ble_eq_true rfl, Nat.le_of_ble_eq_true rfl⟩) rfl rfl (Nat.le_of_ble_eq_true rfl) dL_law__12 ⟨(Nat.le_of_ble_eq_true rfl), (Nat.le_of_ble_eq_true rfl)⟩ (fun u_ H locs hq40 hP hD hS => ?_)
  obtain ⟨a_38, m0_39⟩ := u_
  have hq40 : zMo m0_39 ∧ m0_39 8 = 0 ∧ m0_39 10 = 1 := hq40
  have hP : va_P g.1 vwCl (List.flatten [bDR g q1 ta_2 o_3 lo_4 go_5 tt_6 lt_7 mo_8 fo_9 ro_10 (-1), bTape g ta_2 ab_11 0 0 0 0 0 (-1) (fun _ => 0), bTown g o_3 a_15 0 0 0 20 6 50 0 1 (fun _ _ => 0), bLaw g lo_4 ac_12 0 (-1) 0 0 0 (fun _ => 0), bLog g go_5 ar_13 0 0 (fun _ => 0), [(tt_6, .inr (8, [.ref ta_2, .ref td_14]))], bTown g td_14 tda_16 0 0 0 20 6 50 0 1 (fun _ _ => 0), [(lt_7, .inr (2, [.ref ta_2, .ref ldr_17]))], bLaw g ldr_17 lda_18 0 (-1) 0 0 0 (fun _ => 0), bMem g mo_8 qT_19 qL_20 it_21 il_22 ig_23 0 0 0 fT_24 fL_25, bTown g it_21 ia_26 0 0 0 20 6 50 0 1 (fun _ _ => 0), bLaw g il_22 ic_27 0 (-1) 0 0 0 (fun _ => 0), bLog g ig_23 ir_28 0 0 (fun _ => 0), bTown g t0_29 ta0_30 0 0 0 20 6 50 0 1 (fun _ _ => 0), bLog g l0_31 la0_32 0 0 (fun _ => 0), [(fo_9, .inr (0, [.ref o_3, .ref lo_4, .ref od_33]))], bTown g od_33 ad_34 0 0 0 20 6 50 0 1 (fun _ _ => 0), bRid g ro_10 af_35 0 0 (fun _ => 0), bObj g q37 a_38 0 0 0 0 0 0 0 (-1) 0 0 0 0, bArr g a_38 (zf [m0_39, fun _ => 0, fun _ => 0, fun _ => 0, fun _ => 0, fun _ => 0, fun _ => 0, fun _ => 0])]) H := hP
  have hD : va_D A (List.flatten [bDR g q1 ta_2 o_3 lo_4 go_5 tt_6 lt_7 mo_8 fo_9 ro_10 (-1), bTape g ta_2 ab_11 0 0 0 0 0 (-1) (fun _ => 0), bTown g o_3 a_15 0 0 0 20 6 50 0 1 (fun _ _ => 0), bLaw g lo_4 ac_12 0 (-1) 0 0 0 (fun _ => 0), bLog g go_5 ar_13 0 0 (fun _ => 0), [(tt_6, .inr (8, [.ref ta_2, .ref td_14]))], bTown g td_14 tda_16 0 0 0 20 6 50 0 1 (fun _ _ => 0), [(lt_7, .inr (2, [.ref ta_2, .ref ldr_17]))], bLaw g ldr_17 lda_18 0 (-1) 0 0 0 (fun _ => 0), bMem g mo_8 qT_19 qL_20 it_21 il_22 ig_23 0 0 0 fT_24 fL_25, bTown g it_21 ia_26 0 0 0 20 6 50 0 1 (fun _ _ => 0), bLaw g il_22 ic_27 0 (-1) 0 0 0 (fun _ => 0), bLog g ig_23 ir_28 0 0 (fun _ => 0), bTown g t0_29 ta0_30 0 0 0 20 6 50 0 1 (fun _ _ => 0), bLog g l0_31 la0_32 0 0 (fun _ => 0), [(fo_9, .inr (0, [.ref o_3, .ref lo_4, .ref od_33]))], bTown g od_33 ad_34 0 0 0 20 6 50 0 1 (fun _ _ => 0), bRid g ro_10 af_35 0 0 (fun _ => 0), bObj g q37 a_38 0 0 0 0 0 0 0 (-1) 0 0 0 0, bArr g a_38 (zf [m0_39, fun _ => 0, fun _ => 0, fun _ => 0, fun _ => 0, fun _ => 0, fun _ => 0, fun _ => 0])]) := hD
  refine W.widen (k := 246) (n := 14990) (Nat.le_of_ble_eq_true rfl) (Nat.le_of_ble_eq_true rfl) ?_
  refine W.eq (g2 := F0 m 15 ls [.ref q37]) rfl ?_
  refine lv_astore_n (lv' := [(2, .ref q37), (1, .ref q1), (0, .ref b)]) hx hb dL_law__15 rfl hl (by decide) rfl (fun ls hl => ?_)
  refine lv_iconst (v := 1) hx hb dL_law__16 (by decide) ?_
  refine znewa (g := g) (atype := .long) (a0 := (1, .inr (.inl (fun _ => 0)))) (N' := 1) hx hb (hts _ k1294) rfl 2 _ rfl (fun _ _ h => h) hK hP hD hS hA (fun _ => rfl) (by decide) (by decide) (Nat.le_of_ble_eq_true rfl) (Nat.le_of_ble_eq_true rfl) (Nat.le_of_ble_eq_true rfl) dL_law__17 (fun q41 H hP hD hS => ?_)
  have hP : va_P g.1 vwCl (List.flatten [bDR g q1 ta_2 o_3 lo_4 go_5 tt_6 lt_7 mo_8 fo_9 ro_10 (-1), bTape g ta_2 ab_11 0 0 0 0 0 (-1) (fun _ => 0), bTown g o_3 a_15 0 0 0 20 6 50 0 1 (fun _ _ => 0), bLaw g lo_4 ac_12 0 (-1) 0 0 0 (fun _ => 0), bLog g go_5 ar_13 0 0 (fun _ => 0), [(tt_6, .inr (8, [.ref ta_2, .ref td_14]))], bTown g td_14 tda_16 0 0 0 20 6 50 0 1 (fun _ _ => 0), [(lt_7, .inr (2, [.ref ta_2, .ref ldr_17]))], bLaw g ldr_17 lda_18 0 (-1) 0 0 0 (fun _ => 0), bMem g mo_8 qT_19 qL_20 it_21 il_22 ig_23 0 0 0 fT_24 fL_25, bTown g it_21 ia_26 0 0 0 20 6 50 0 1 (fun _ _ => 0), bLaw g il_22 ic_27 0 (-1) 0 0 0 (fun _ => 0), bLog g ig_23 ir_28 0 0 (fun _ => 0), bTown g t0_29 ta0_30 0 0 0 20 6 50 0 1 (fun _ _ => 0), bLog g l0_31 la0_32 0 0 (fun _ => 0), [(fo_9, .inr (0, [.ref o_3, .ref lo_4, .ref od_33]))], bTown g od_33 ad_34 0 0 0 20 6 50 0 1 (fun _ _ => 0), bRid g ro_10 af_35 0 0 (fun _ => 0), bObj g q37 a_38 0 0 0 0 0 0 0 (-1) 0 0 0 0, bArr g a_38 (zf [m0_39, fun _ => 0, fun _ => 0, fun _ => 0, fun _ => 0, fun _ => 0, fun _ => 0, fun _ => 0]), [(q41, .inl (g.2 2, 1, .inr (.inl (fun _ => 0))))]]) H := hP
  have hD : va_D A (List.flatten [bDR g q1 ta_2 o_3 lo_4 go_5 tt_6 lt_7 mo_8 fo_9 ro_10 (-1), bTape g ta_2 ab_11 0 0 0 0 0 (-1) (fun _ => 0), bTown g o_3 a_15 0 0 0 20 6 50 0 1 (fun _ _ => 0), bLaw g lo_4 ac_12 0 (-1) 0 0 0 (fun _ => 0), bLog g go_5 ar_13 0 0 (fun _ => 0), [(tt_6, .inr (8, [.ref ta_2, .ref td_14]))], bTown g td_14 tda_16 0 0 0 20 6 50 0 1 (fun _ _ => 0), [(lt_7, .inr (2, [.ref ta_2, .ref ldr_17]))], bLaw g ldr_17 lda_18 0 (-1) 0 0 0 (fun _ => 0), bMem g mo_8 qT_19 qL_20 it_21 il_22 ig_23 0 0 0 fT_24 fL_25, bTown g it_21 ia_26 0 0 0 20 6 50 0 1 (fun _ _ => 0), bLaw g il_22 ic_27 0 (-1) 0 0 0 (fun _ => 0), bLog g ig_23 ir_28 0 0 (fun _ => 0), bTown g t0_29 ta0_30 0 0 0 20 6 50 0 1 (fun _ _ => 0), bLog g l0_31 la0_32 0 0 (fun _ => 0), [(fo_9, .inr (0, [.ref o_3, .ref lo_4, .ref od_33]))], bTown g od_33 ad_34 0 0 0 20 6 50 0 1 (fun _ _ => 0), bRid g ro_10 af_35 0 0 (fun _ => 0), bObj g q37 a_38 0 0 0 0 0 0 0 (-1) 0 0 0 0, bArr g a_38 (zf [m0_39, fun _ => 0, fun _ => 0, fun _ => 0, fun _ => 0, fun _ => 0, fun _ => 0, fun _ => 0]), [(q41, .inl (g.2 2, 1, .inr (.inl (fun _ => 0))))]]) := hD
  refine W.widen (k := 247) (n := 14991) (Nat.le_of_ble_eq_true rfl) (Nat.le_of_ble_eq_true rfl) ?_
  refine lv_astore_n (lv' := [(3, .ref q41), (2, .ref q37), (1, .ref q1), (0, .ref b)]) hx hb dL_law__19 rfl hl (by decide) rfl (fun ls hl => ?_)
  refine lv_iconst (v := 0) hx hb dL_law__20 (by decide) ?_
  refine lv_istore (lv' := [(4, .int 0), (3, .ref q41), (2, .ref q37), (1, .ref q1), (0, .ref b)]) hx hb dL_law__21 hl (by decide) rfl (fun ls hl => ?_)
  obtain ⟨hT0, hL0⟩ := hq36
  obtain ⟨hm, h8, h10⟩ := hq40
  rcases Nat.lt_or_ge L 6 with hlt | hge
  · rcases (show L = 0 ∨ L = 1 ∨ L = 2 ∨ L = 3 ∨ L = 4 ∨ L = 5 by omega) with rfl | rfl | rfl | rfl | rfl | rfl
    · skip
      refine lv_iload hx hb dL_law__23 (lv_at hl 0 rfl) ?_
      refine lv_aload_n hx hb dL_law__25 rfl (lv_at hl 4 rfl) ?_
      refine va_slen hx hb hX hbl hbA hS dL_law__26 ?_
      refine ztop (r := 0) rfl ?_
      refine lv_bipush (v := 6) hx hb dL_law__27 (by decide) ?_
      refine lv_isub hx hb dL_law__29 ?_
      refine ztop (r := (-6)) (by decide) ?_
      refine lv_icmp_gt (tgt := 2744) hx hb dL_law__30 (by decide) (fun _ => ?_) (fun c42 => absurd (by decide) c42)
      refine lv_iconst (v := 1) hx hb dL_law__2744 (by decide) ?_
      refine va_forget (fun q hq => by have h9 := hS.2.2 q hq; rw [hAe] at h9; exact h9) ?_
      refine W.widen (k := 600002) (n := 7302232) (Nat.le_of_ble_eq_true rfl) (Nat.le_of_ble_eq_true rfl) ?_
      exact lw_ret hx hb hr hlocks dL_law__2745
    · skip
      refine lv_iload hx hb dL_law__23 (lv_at hl 0 rfl) ?_
      refine lv_aload_n hx hb dL_law__25 rfl (lv_at hl 4 rfl) ?_
      refine va_slen hx hb hX hbl hbA hS dL_law__26 ?_
      refine ztop (r := 1) rfl ?_
      refine lv_bipush (v := 6) hx hb dL_law__27 (by decide) ?_
      refine lv_isub hx hb dL_law__29 ?_
      refine ztop (r := (-5)) (by decide) ?_
      refine lv_icmp_gt (tgt := 2744) hx hb dL_law__30 (by decide) (fun _ => ?_) (fun c43 => absurd (by decide) c43)
      refine lv_iconst (v := 1) hx hb dL_law__2744 (by decide) ?_
      refine va_forget (fun q hq => by have h9 := hS.2.2 q hq; rw [hAe] at h9; exact h9) ?_
      refine W.widen (k := 600002) (n := 7302232) (Nat.le_of_ble_eq_true rfl) (Nat.le_of_ble_eq_true rfl) ?_
      exact lw_ret hx hb hr hlocks dL_law__2745
    · skip
      refine lv_iload hx hb dL_law__23 (lv_at hl 0 rfl) ?_
      refine lv_aload_n hx hb dL_law__25 rfl (lv_at hl 4 rfl) ?_
      refine va_slen hx hb hX hbl hbA hS dL_law__26 ?_
      refine ztop (r := 2) rfl ?_
      refine lv_bipush (v := 6) hx hb dL_law__27 (by decide) ?_
      refine lv_isub hx hb dL_law__29 ?_
      refine ztop (r := (-4)) (by decide) ?_
      refine lv_icmp_gt (tgt := 2744) hx hb dL_law__30 (by decide) (fun _ => ?_) (fun c44 => absurd (by decide) c44)
      refine lv_iconst (v := 1) hx hb dL_law__2744 (by decide) ?_
      refine va_forget (fun q hq => by have h9 := hS.2.2 q hq; rw [hAe] at h9; exact h9) ?_
      refine W.widen (k := 600002) (n := 7302232) (Nat.le_of_ble_eq_true rfl) (Nat.le_of_ble_eq_true rfl) ?_
      exact lw_ret hx hb hr hlocks dL_law__2745
    · skip
      refine lv_iload hx hb dL_law__23 (lv_at hl 0 rfl) ?_
      refine lv_aload_n hx hb dL_law__25 rfl (lv_at hl 4 rfl) ?_
      refine va_slen hx hb hX hbl hbA hS dL_law__26 ?_
      refine ztop (r := 3) rfl ?_
      refine lv_bipush (v := 6) hx hb dL_law__27 (by decide) ?_
      refine lv_isub hx hb dL_law__29 ?_
      refine ztop (r := (-3)) (by decide) ?_
      refine lv_icmp_gt (tgt := 2744) hx hb dL_law__30 (by decide) (fun _ => ?_) (fun c45 => absurd (by decide) c45)
      refine lv_iconst (v := 1) hx hb dL_law__2744 (by decide) ?_
      refine va_forget (fun q hq => by have h9 := hS.2.2 q hq; rw [hAe] at h9; exact h9) ?_
      refine W.widen (k := 600002) (n := 7302232) (Nat.le_of_ble_eq_true rfl) (Nat.le_of_ble_eq_true rfl) ?_
      exact lw_ret hx hb hr hlocks dL_law__2745
    · skip
      refine lv_iload hx hb dL_law__23 (lv_at hl 0 rfl) ?_
      refine lv_aload_n hx hb dL_law__25 rfl (lv_at hl 4 rfl) ?_
      refine va_slen hx hb hX hbl hbA hS dL_law__26 ?_
      refine ztop (r := 4) rfl ?_
      refine lv_bipush (v := 6) hx hb dL_law__27 (by decide) ?_
      refine lv_isub hx hb dL_law__29 ?_
      refine ztop (r := (-2)) (by decide) ?_
      refine lv_icmp_gt (tgt := 2744) hx hb dL_law__30 (by decide) (fun _ => ?_) (fun c46 => absurd (by decide) c46)
      refine lv_iconst (v := 1) hx hb dL_law__2744 (by decide) ?_
      refine va_forget (fun q hq => by have h9 := hS.2.2 q hq; rw [hAe] at h9; exact h9) ?_
      refine W.widen (k := 600002) (n := 7302232) (Nat.le_of_ble_eq_true rfl) (Nat.le_of_ble_eq_true rfl) ?_
      exact lw_ret hx hb hr hlocks dL_law__2745
    · skip
      refine lv_iload hx hb dL_law__23 (lv_at hl 0 rfl) ?_
      refine lv_aload_n hx hb dL_law__25 rfl (lv_at hl 4 rfl) ?_
      refine va_slen hx hb hX hbl hbA hS dL_law__26 ?_
      refine ztop (r := 5) rfl ?_
      refine lv_bipush (v := 6) hx hb dL_law__27 (by decide) ?_
      refine lv_isub hx hb dL_law__29 ?_
      refine ztop (r := (-1)) (by decide) ?_
      refine lv_icmp_gt (tgt := 2744) hx hb dL_law__30 (by decide) (fun _ => ?_) (fun c47 => absurd (by decide) c47)
      refine lv_iconst (v := 1) hx hb dL_law__2744 (by decide) ?_
      refine va_forget (fun q hq => by have h9 := hS.2.2 q hq; rw [hAe] at h9; exact h9) ?_
      refine W.widen (k := 600002) (n := 7302232) (Nat.le_of_ble_eq_true rfl) (Nat.le_of_ble_eq_true rfl) ?_
      exact lw_ret hx hb hr hlocks dL_law__2745
  · obtain rfl : L = 6 := by omega
    refine lv_iload hx hb dL_law__23 (lv_at hl 0 rfl) ?_
    refine lv_aload_n hx hb dL_law__25 rfl (lv_at hl 4 rfl) ?_
    refine va_slen hx hb hX hbl hbA hS dL_law__26 ?_
    refine ztop (r := 6) rfl ?_
    refine lv_bipush (v := 6) hx hb dL_law__27 (by decide) ?_
    refine lv_isub hx hb dL_law__29 ?_
    refine ztop (r := 0) (by decide) ?_
    refine lv_icmp_gt (tgt := 2744) hx hb dL_law__30 (by decide) (fun c48 => absurd c48 (by decide)) (fun _ => ?_)
    refine lv_aload_n hx hb dL_law__33 rfl (lv_at hl 4 rfl) ?_
    refine lv_iload hx hb dL_law__34 (lv_at hl 0 rfl) ?_
    refine va_sld hx hb hX hbl hbA hS (zin rfl) dL_law__36 ?_
    refine ztop (r := xs 0) rfl ?_
    refine lv_bipush (v := 63) hx hb dL_law__37 (by decide) ?_
    refine lv_iand hx hb dL_law__39 ?_
    obtain ⟨j, hj, hv⟩ := pk_andE (xs 0) (m := 63) 6 rfl
    refine ztop hv ?_
    by_cases hk0 : j = 0
    · subst hk0
      refine lv_tableIn (x := nI 0) (off := 216) (tgt := 256) hx hb dL_law__40 (by decide) (by decide) rfl (by decide) ?_
      exact w_0 l hfl g hAe hA hbA St hr hlocks hX hbl hK hT q1 ta_2 o_3 lo_4 go_5 tt_6 lt_7 mo_8 fo_9 ro_10 ab_11 ac_12 ar_13 td_14 a_15 tda_16 ldr_17 lda_18 qT_19 qL_20 it_21 il_22 ig_23 fT_24 fL_25 ia_26 ic_27 ir_28 t0_29 ta0_30 l0_31 la0_32 od_33 ad_34 af_35 q37 a_38 m0_39 q41 hT0 hL0 hm h8 h10 H locs ls hP hD hS (lv_sub hl [0, 1, 2, 3, 4] rfl)
    by_cases hk1 : j = 1
    · subst hk1
      refine lv_tableIn (x := nI 1) (off := 289) (tgt := 329) hx hb dL_law__40 (by decide) (by decide) rfl (by decide) ?_
      exact w_1 l hfl g hAe hA hbA St hr hlocks hX hbl hK hT q1 ta_2 o_3 lo_4 go_5 tt_6 lt_7 mo_8 fo_9 ro_10 ab_11 ac_12 ar_13 td_14 a_15 tda_16 ldr_17 lda_18 qT_19 qL_20 it_21 il_22 ig_23 fT_24 fL_25 ia_26 ic_27 ir_28 t0_29 ta0_30 l0_31 la0_32 od_33 ad_34 af_35 q37 a_38 m0_39 q41 hT0 hL0 hm h8 h10 H locs ls hP hD hS (lv_sub hl [0, 1, 2, 3, 4] rfl)
    by_cases hk2 : j = 2
    · subst hk2
      refine lv_tableIn (x := nI 2) (off := 314) (tgt := 354) hx hb dL_law__40 (by decide) (by decide) rfl (by decide) ?_
      exact w_2 l hfl g hAe hA hbA St hr hlocks hX hbl hK hT q1 ta_2 o_3 lo_4 go_5 tt_6 lt_7 mo_8 fo_9 ro_10 ab_11 ac_12 ar_13 td_14 a_15 tda_16 ldr_17 lda_18 qT_19 qL_20 it_21 il_22 ig_23 fT_24 fL_25 ia_26 ic_27 ir_28 t0_29 ta0_30 l0_31 la0_32 od_33 ad_34 af_35 q37 a_38 m0_39 q41 hT0 hL0 hm h8 h10 H locs ls hP hD hS (lv_sub hl [0, 1, 2, 3, 4] rfl)
    by_cases hk3 : j = 3
    · subst hk3
      refine lv_tableIn (x := nI 3) (off := 358) (tgt := 398) hx hb dL_law__40 (by decide) (by decide) rfl (by decide) ?_
      exact w_3 l hfl g hAe hA hbA St hr hlocks hX hbl hK hT q1 ta_2 o_3 lo_4 go_5 tt_6 lt_7 mo_8 fo_9 ro_10 ab_11 ac_12 ar_13 td_14 a_15 tda_16 ldr_17 lda_18 qT_19 qL_20 it_21 il_22 ig_23 fT_24 fL_25 ia_26 ic_27 ir_28 t0_29 ta0_30 l0_31 la0_32 od_33 ad_34 af_35 q37 a_38 m0_39 q41 hT0 hL0 hm h8 h10 H locs ls hP hD hS (lv_sub hl [0, 1, 2, 3, 4] rfl)
    by_cases hk4 : j = 4
    · subst hk4
      refine lv_tableIn (x := nI 4) (off := 402) (tgt := 442) hx hb dL_law__40 (by decide) (by decide) rfl (by decide) ?_
      exact w_4 l hfl g hAe hA hbA St hr hlocks hX hbl hK hT q1 ta_2 o_3 lo_4 go_5 tt_6 lt_7 mo_8 fo_9 ro_10 ab_11 ac_12 ar_13 td_14 a_15 tda_16 ldr_17 lda_18 qT_19 qL_20 it_21 il_22 ig_23 fT_24 fL_25 ia_26 ic_27 ir_28 t0_29 ta0_30 l0_31 la0_32 od_33 ad_34 af_35 q37 a_38 m0_39 q41 hT0 hL0 hm h8 h10 H locs ls hP hD hS (lv_sub hl [0, 1, 2, 3, 4] rfl)
    by_cases hk5 : j = 5
    · subst hk5
      refine lv_tableIn (x := nI 5) (off := 415) (tgt := 455) hx hb dL_law__40 (by decide) (by decide) rfl (by decide) ?_
      exact w_5 l hfl g hAe hA hbA St hr hlocks hX hbl hK hT q1 ta_2 o_3 lo_4 go_5 tt_6 lt_7 mo_8 fo_9 ro_10 ab_11 ac_12 ar_13 td_14 a_15 tda_16 ldr_17 lda_18 qT_19 qL_20 it_21 il_22 ig_23 fT_24 fL_25 ia_26 ic_27 ir_28 t0_29 ta0_30 l0_31 la0_32 od_33 ad_34 af_35 q37 a_38 m0_39 q41 hT0 hL0 hm h8 h10 H locs ls hP hD hS (lv_sub hl [0, 1, 2, 3, 4] rfl)
    by_cases hk6 : j = 6
    · subst hk6
      refine lv_tableIn (x := nI 6) (off := 483) (tgt := 523) hx hb dL_law__40 (by decide) (by decide) rfl (by decide) ?_
      exact w_6 l hfl g hAe hA hbA St hr hlocks hX hbl hK hT q1 ta_2 o_3 lo_4 go_5 tt_6 lt_7 mo_8 fo_9 ro_10 ab_11 ac_12 ar_13 td_14 a_15 tda_16 ldr_17 lda_18 qT_19 qL_20 it_21 il_22 ig_23 fT_24 fL_25 ia_26 ic_27 ir_28 t0_29 ta0_30 l0_31 la0_32 od_33 ad_34 af_35 q37 a_38 m0_39 q41 hT0 hL0 hm h8 h10 H locs ls hP hD hS (lv_sub hl [0, 1, 2, 3, 4] rfl)
    by_cases hk7 : j = 7
    · subst hk7
      refine lv_tableIn (x := nI 7) (off := 551) (tgt := 591) hx hb dL_law__40 (by decide) (by decide) rfl (by decide) ?_
      exact w_7 l hfl g hAe hA hbA St hr hlocks hX hbl hK hT q1 ta_2 o_3 lo_4 go_5 tt_6 lt_7 mo_8 fo_9 ro_10 ab_11 ac_12 ar_13 td_14 a_15 tda_16 ldr_17 lda_18 qT_19 qL_20 it_21 il_22 ig_23 fT_24 fL_25 ia_26 ic_27 ir_28 t0_29 ta0_30 l0_31 la0_32 od_33 ad_34 af_35 q37 a_38 m0_39 q41 hT0 hL0 hm h8 h10 H locs ls hP hD hS (lv_sub hl [0, 1, 2, 3, 4] rfl)
    by_cases hk8 : j = 8
    · subst hk8
      refine lv_tableIn (x := nI 8) (off := 619) (tgt := 659) hx hb dL_law__40 (by decide) (by decide) rfl (by decide) ?_
      exact w_8 l hfl g hAe hA hbA St hr hlocks hX hbl hK hT q1 ta_2 o_3 lo_4 go_5 tt_6 lt_7 mo_8 fo_9 ro_10 ab_11 ac_12 ar_13 td_14 a_15 tda_16 ldr_17 lda_18 qT_19 qL_20 it_21 il_22 ig_23 fT_24 fL_25 ia_26 ic_27 ir_28 t0_29 ta0_30 l0_31 la0_32 od_33 ad_34 af_35 q37 a_38 m0_39 q41 hT0 hL0 hm h8 h10 H locs ls hP hD hS (lv_sub hl [0, 1, 2, 3, 4] rfl)
    by_cases hk9 : j = 9
    · subst hk9
      refine lv_tableIn (x := nI 9) (off := 632) (tgt := 672) hx hb dL_law__40 (by decide) (by decide) rfl (by decide) ?_
      exact w_9 l hfl g hAe hA hbA St hr hlocks hX hbl hK hT q1 ta_2 o_3 lo_4 go_5 tt_6 lt_7 mo_8 fo_9 ro_10 ab_11 ac_12 ar_13 td_14 a_15 tda_16 ldr_17 lda_18 qT_19 qL_20 it_21 il_22 ig_23 fT_24 fL_25 ia_26 ic_27 ir_28 t0_29 ta0_30 l0_31 la0_32 od_33 ad_34 af_35 q37 a_38 m0_39 q41 hT0 hL0 hm h8 h10 H locs ls hP hD hS (lv_sub hl [0, 1, 2, 3, 4] rfl)
    by_cases hk10 : j = 10
    · subst hk10
      refine lv_tableIn (x := nI 10) (off := 688) (tgt := 728) hx hb dL_law__40 (by decide) (by decide) rfl (by decide) ?_
      exact w_10 l hfl g hAe hA hbA St hr hlocks hX hbl hK hT q1 ta_2 o_3 lo_4 go_5 tt_6 lt_7 mo_8 fo_9 ro_10 ab_11 ac_12 ar_13 td_14 a_15 tda_16 ldr_17 lda_18 qT_19 qL_20 it_21 il_22 ig_23 fT_24 fL_25 ia_26 ic_27 ir_28 t0_29 ta0_30 l0_31 la0_32 od_33 ad_34 af_35 q37 a_38 m0_39 q41 hT0 hL0 hm h8 h10 H locs ls hP hD hS (lv_sub hl [0, 1, 2, 3, 4] rfl)
    by_cases hk11 : j = 11
    · subst hk11
      refine lv_tableIn (x := nI 11) (off := 768) (tgt := 808) hx hb dL_law__40 (by decide) (by decide) rfl (by decide) ?_
      exact w_11 l hfl g hAe hA hbA St hr hlocks hX hbl hK hT q1 ta_2 o_3 lo_4 go_5 tt_6 lt_7 mo_8 fo_9 ro_10 ab_11 ac_12 ar_13 td_14 a_15 tda_16 ldr_17 lda_18 qT_19 qL_20 it_21 il_22 ig_23 fT_24 fL_25 ia_26 ic_27 ir_28 t0_29 ta0_30 l0_31 la0_32 od_33 ad_34 af_35 q37 a_38 m0_39 q41 hT0 hL0 hm h8 h10 H locs ls hP hD hS (lv_sub hl [0, 1, 2, 3, 4] rfl)
    by_cases hk12 : j = 12
    · subst hk12
      refine lv_tableIn (x := nI 12) (off := 804) (tgt := 844) hx hb dL_law__40 (by decide) (by decide) rfl (by decide) ?_
      exact w_12 l hfl g hAe hA hbA St hr hlocks hX hbl hK hT q1 ta_2 o_3 lo_4 go_5 tt_6 lt_7 mo_8 fo_9 ro_10 ab_11 ac_12 ar_13 td_14 a_15 tda_16 ldr_17 lda_18 qT_19 qL_20 it_21 il_22 ig_23 fT_24 fL_25 ia_26 ic_27 ir_28 t0_29 ta0_30 l0_31 la0_32 od_33 ad_34 af_35 q37 a_38 m0_39 q41 hT0 hL0 hm h8 h10 H locs ls hP hD hS (lv_sub hl [0, 1, 2, 3, 4] rfl)
    by_cases hk13 : j = 13
    · subst hk13
      refine lv_tableIn (x := nI 13) (off := 860) (tgt := 900) hx hb dL_law__40 (by decide) (by decide) rfl (by decide) ?_
      exact w_13 l hfl g hAe hA hbA St hr hlocks hX hbl hK hT q1 ta_2 o_3 lo_4 go_5 tt_6 lt_7 mo_8 fo_9 ro_10 ab_11 ac_12 ar_13 td_14 a_15 tda_16 ldr_17 lda_18 qT_19 qL_20 it_21 il_22 ig_23 fT_24 fL_25 ia_26 ic_27 ir_28 t0_29 ta0_30 l0_31 la0_32 od_33 ad_34 af_35 q37 a_38 m0_39 q41 hT0 hL0 hm h8 h10 H locs ls hP hD hS (lv_sub hl [0, 1, 2, 3, 4] rfl)
    by_cases hk14 : j = 14
    · subst hk14
      refine lv_tableIn (x := nI 14) (off := 928) (tgt := 968) hx hb dL_law__40 (by decide) (by decide) rfl (by decide) ?_
      exact w_14 l hfl g hAe hA hbA St hr hlocks hX hbl hK hT q1 ta_2 o_3 lo_4 go_5 tt_6 lt_7 mo_8 fo_9 ro_10 ab_11 ac_12 ar_13 td_14 a_15 tda_16 ldr_17 lda_18 qT_19 qL_20 it_21 il_22 ig_23 fT_24 fL_25 ia_26 ic_27 ir_28 t0_29 ta0_30 l0_31 la0_32 od_33 ad_34 af_35 q37 a_38 m0_39 q41 hT0 hL0 hm h8 h10 H locs ls hP hD hS (lv_sub hl [0, 1, 2, 3, 4] rfl)
    by_cases hk15 : j = 15
    · subst hk15
      refine lv_tableIn (x := nI 15) (off := 996) (tgt := 1036) hx hb dL_law__40 (by decide) (by decide) rfl (by decide) ?_
      exact w_15 l hfl g hAe hA hbA St hr hlocks hX hbl hK hT q1 ta_2 o_3 lo_4 go_5 tt_6 lt_7 mo_8 fo_9 ro_10 ab_11 ac_12 ar_13 td_14 a_15 tda_16 ldr_17 lda_18 qT_19 qL_20 it_21 il_22 ig_23 fT_24 fL_25 ia_26 ic_27 ir_28 t0_29 ta0_30 l0_31 la0_32 od_33 ad_34 af_35 q37 a_38 m0_39 q41 hT0 hL0 hm h8 h10 H locs ls hP hD hS (lv_sub hl [0, 1, 2, 3, 4] rfl)
    by_cases hk16 : j = 16
    · subst hk16
      refine lv_tableIn (x := nI 16) (off := 1087) (tgt := 1127) hx hb dL_law__40 (by decide) (by decide) rfl (by decide) ?_
      exact w_16 l hfl g hAe hA hbA St hr hlocks hX hbl hK hT q1 ta_2 o_3 lo_4 go_5 tt_6 lt_7 mo_8 fo_9 ro_10 ab_11 ac_12 ar_13 td_14 a_15 tda_16 ldr_17 lda_18 qT_19 qL_20 it_21 il_22 ig_23 fT_24 fL_25 ia_26 ic_27 ir_28 t0_29 ta0_30 l0_31 la0_32 od_33 ad_34 af_35 q37 a_38 m0_39 q41 hT0 hL0 hm h8 h10 H locs ls hP hD hS (lv_sub hl [0, 1, 2, 3, 4] rfl)
    by_cases hk17 : j = 17
    · subst hk17
      refine lv_tableIn (x := nI 17) (off := 1143) (tgt := 1183) hx hb dL_law__40 (by decide) (by decide) rfl (by decide) ?_
      exact w_17 l hfl g hAe hA hbA St hr hlocks hX hbl hK hT q1 ta_2 o_3 lo_4 go_5 tt_6 lt_7 mo_8 fo_9 ro_10 ab_11 ac_12 ar_13 td_14 a_15 tda_16 ldr_17 lda_18 qT_19 qL_20 it_21 il_22 ig_23 fT_24 fL_25 ia_26 ic_27 ir_28 t0_29 ta0_30 l0_31 la0_32 od_33 ad_34 af_35 q37 a_38 m0_39 q41 hT0 hL0 hm h8 h10 H locs ls hP hD hS (lv_sub hl [0, 1, 2, 3, 4] rfl)
    by_cases hk18 : j = 18
    · subst hk18
      refine lv_tableIn (x := nI 18) (off := 1211) (tgt := 1251) hx hb dL_law__40 (by decide) (by decide) rfl (by decide) ?_
      exact w_18 l hfl g hAe hA hbA St hr hlocks hX hbl hK hT q1 ta_2 o_3 lo_4 go_5 tt_6 lt_7 mo_8 fo_9 ro_10 ab_11 ac_12 ar_13 td_14 a_15 tda_16 ldr_17 lda_18 qT_19 qL_20 it_21 il_22 ig_23 fT_24 fL_25 ia_26 ic_27 ir_28 t0_29 ta0_30 l0_31 la0_32 od_33 ad_34 af_35 q37 a_38 m0_39 q41 hT0 hL0 hm h8 h10 H locs ls hP hD hS (lv_sub hl [0, 1, 2, 3, 4] rfl)
    by_cases hk19 : j = 19
    · subst hk19
      refine lv_tableIn (x := nI 19) (off := 1295) (tgt := 1335) hx hb dL_law__40 (by decide) (by decide) rfl (by decide) ?_
      exact w_19 l hfl g hAe hA hbA St hr hlocks hX hbl hK hT q1 ta_2 o_3 lo_4 go_5 tt_6 lt_7 mo_8 fo_9 ro_10 ab_11 ac_12 ar_13 td_14 a_15 tda_16 ldr_17 lda_18 qT_19 qL_20 it_21 il_22 ig_23 fT_24 fL_25 ia_26 ic_27 ir_28 t0_29 ta0_30 l0_31 la0_32 od_33 ad_34 af_35 q37 a_38 m0_39 q41 hT0 hL0 hm h8 h10 H locs ls hP hD hS (lv_sub hl [0, 1, 2, 3, 4] rfl)
    by_cases hk20 : j = 20
    · subst hk20
      refine lv_tableIn (x := nI 20) (off := 1363) (tgt := 1403) hx hb dL_law__40 (by decide) (by decide) rfl (by decide) ?_
      exact w_20 l hfl g hAe hA hbA St hr hlocks hX hbl hK hT q1 ta_2 o_3 lo_4 go_5 tt_6 lt_7 mo_8 fo_9 ro_10 ab_11 ac_12 ar_13 td_14 a_15 tda_16 ldr_17 lda_18 qT_19 qL_20 it_21 il_22 ig_23 fT_24 fL_25 ia_26 ic_27 ir_28 t0_29 ta0_30 l0_31 la0_32 od_33 ad_34 af_35 q37 a_38 m0_39 q41 hT0 hL0 hm h8 h10 H locs ls hP hD hS (lv_sub hl [0, 1, 2, 3, 4] rfl)
    by_cases hk21 : j = 21
    · subst hk21
      refine lv_tableIn (x := nI 21) (off := 1419) (tgt := 1459) hx hb dL_law__40 (by decide) (by decide) rfl (by decide) ?_
      exact w_21 l hfl g hAe hA hbA St hr hlocks hX hbl hK hT q1 ta_2 o_3 lo_4 go_5 tt_6 lt_7 mo_8 fo_9 ro_10 ab_11 ac_12 ar_13 td_14 a_15 tda_16 ldr_17 lda_18 qT_19 qL_20 it_21 il_22 ig_23 fT_24 fL_25 ia_26 ic_27 ir_28 t0_29 ta0_30 l0_31 la0_32 od_33 ad_34 af_35 q37 a_38 m0_39 q41 hT0 hL0 hm h8 h10 H locs ls hP hD hS (lv_sub hl [0, 1, 2, 3, 4] rfl)
    by_cases hk22 : j = 22
    · subst hk22
      refine lv_tableIn (x := nI 22) (off := 1487) (tgt := 1527) hx hb dL_law__40 (by decide) (by decide) rfl (by decide) ?_
      exact w_22 l hfl g hAe hA hbA St hr hlocks hX hbl hK hT q1 ta_2 o_3 lo_4 go_5 tt_6 lt_7 mo_8 fo_9 ro_10 ab_11 ac_12 ar_13 td_14 a_15 tda_16 ldr_17 lda_18 qT_19 qL_20 it_21 il_22 ig_23 fT_24 fL_25 ia_26 ic_27 ir_28 t0_29 ta0_30 l0_31 la0_32 od_33 ad_34 af_35 q37 a_38 m0_39 q41 hT0 hL0 hm h8 h10 H locs ls hP hD hS (lv_sub hl [0, 1, 2, 3, 4] rfl)
    by_cases hk23 : j = 23
    · subst hk23
      refine lv_tableIn (x := nI 23) (off := 1543) (tgt := 1583) hx hb dL_law__40 (by decide) (by decide) rfl (by decide) ?_
      exact w_23 l hfl g hAe hA hbA St hr hlocks hX hbl hK hT q1 ta_2 o_3 lo_4 go_5 tt_6 lt_7 mo_8 fo_9 ro_10 ab_11 ac_12 ar_13 td_14 a_15 tda_16 ldr_17 lda_18 qT_19 qL_20 it_21 il_22 ig_23 fT_24 fL_25 ia_26 ic_27 ir_28 t0_29 ta0_30 l0_31 la0_32 od_33 ad_34 af_35 q37 a_38 m0_39 q41 hT0 hL0 hm h8 h10 H locs ls hP hD hS (lv_sub hl [0, 1, 2, 3, 4] rfl)
    by_cases hk24 : j = 24
    · subst hk24
      refine lv_tableIn (x := nI 24) (off := 1556) (tgt := 1596) hx hb dL_law__40 (by decide) (by decide) rfl (by decide) ?_
      exact w_24 l hfl g hAe hA hbA St hr hlocks hX hbl hK hT q1 ta_2 o_3 lo_4 go_5 tt_6 lt_7 mo_8 fo_9 ro_10 ab_11 ac_12 ar_13 td_14 a_15 tda_16 ldr_17 lda_18 qT_19 qL_20 it_21 il_22 ig_23 fT_24 fL_25 ia_26 ic_27 ir_28 t0_29 ta0_30 l0_31 la0_32 od_33 ad_34 af_35 q37 a_38 m0_39 q41 hT0 hL0 hm h8 h10 H locs ls hP hD hS (lv_sub hl [0, 1, 2, 3, 4] rfl)
    by_cases hk25 : j = 25
    · subst hk25
      refine lv_tableIn (x := nI 25) (off := 1569) (tgt := 1609) hx hb dL_law__40 (by decide) (by decide) rfl (by decide) ?_
      exact w_25 l hfl g hAe hA hbA St hr hlocks hX hbl hK hT q1 ta_2 o_3 lo_4 go_5 tt_6 lt_7 mo_8 fo_9 ro_10 ab_11 ac_12 ar_13 td_14 a_15 tda_16 ldr_17 lda_18 qT_19 qL_20 it_21 il_22 ig_23 fT_24 fL_25 ia_26 ic_27 ir_28 t0_29 ta0_30 l0_31 la0_32 od_33 ad_34 af_35 q37 a_38 m0_39 q41 hT0 hL0 hm h8 h10 H locs ls hP hD hS (lv_sub hl [0, 1, 2, 3, 4] rfl)
    by_cases hk26 : j = 26
    · subst hk26
      refine lv_tableIn (x := nI 26) (off := 1653) (tgt := 1693) hx hb dL_law__40 (by decide) (by decide) rfl (by decide) ?_
      exact w_26 l hfl g hAe hA hbA St hr hlocks hX hbl hK hT q1 ta_2 o_3 lo_4 go_5 tt_6 lt_7 mo_8 fo_9 ro_10 ab_11 ac_12 ar_13 td_14 a_15 tda_16 ldr_17 lda_18 qT_19 qL_20 it_21 il_22 ig_23 fT_24 fL_25 ia_26 ic_27 ir_28 t0_29 ta0_30 l0_31 la0_32 od_33 ad_34 af_35 q37 a_38 m0_39 q41 hT0 hL0 hm h8 h10 H locs ls hP hD hS (lv_sub hl [0, 1, 2, 3, 4] rfl)
    by_cases hk27 : j = 27
    · subst hk27
      refine lv_tableIn (x := nI 27) (off := 1709) (tgt := 1749) hx hb dL_law__40 (by decide) (by decide) rfl (by decide) ?_
      exact w_27 l hfl g hAe hA hbA St hr hlocks hX hbl hK hT q1 ta_2 o_3 lo_4 go_5 tt_6 lt_7 mo_8 fo_9 ro_10 ab_11 ac_12 ar_13 td_14 a_15 tda_16 ldr_17 lda_18 qT_19 qL_20 it_21 il_22 ig_23 fT_24 fL_25 ia_26 ic_27 ir_28 t0_29 ta0_30 l0_31 la0_32 od_33 ad_34 af_35 q37 a_38 m0_39 q41 hT0 hL0 hm h8 h10 H locs ls hP hD hS (lv_sub hl [0, 1, 2, 3, 4] rfl)
    by_cases hk28 : j = 28
    · subst hk28
      refine lv_tableIn (x := nI 28) (off := 1750) (tgt := 1790) hx hb dL_law__40 (by decide) (by decide) rfl (by decide) ?_
      exact w_28 l hfl g hAe hA hbA St hr hlocks hX hbl hK hT q1 ta_2 o_3 lo_4 go_5 tt_6 lt_7 mo_8 fo_9 ro_10 ab_11 ac_12 ar_13 td_14 a_15 tda_16 ldr_17 lda_18 qT_19 qL_20 it_21 il_22 ig_23 fT_24 fL_25 ia_26 ic_27 ir_28 t0_29 ta0_30 l0_31 la0_32 od_33 ad_34 af_35 q37 a_38 m0_39 q41 hT0 hL0 hm h8 h10 H locs ls hP hD hS (lv_sub hl [0, 1, 2, 3, 4] rfl)
    by_cases hk29 : j = 29
    · subst hk29
      refine lv_tableIn (x := nI 29) (off := 1806) (tgt := 1846) hx hb dL_law__40 (by decide) (by decide) rfl (by decide) ?_
      exact w_29 l hfl g hAe hA hbA St hr hlocks hX hbl hK hT q1 ta_2 o_3 lo_4 go_5 tt_6 lt_7 mo_8 fo_9 ro_10 ab_11 ac_12 ar_13 td_14 a_15 tda_16 ldr_17 lda_18 qT_19 qL_20 it_21 il_22 ig_23 fT_24 fL_25 ia_26 ic_27 ir_28 t0_29 ta0_30 l0_31 la0_32 od_33 ad_34 af_35 q37 a_38 m0_39 q41 hT0 hL0 hm h8 h10 H locs ls hP hD hS (lv_sub hl [0, 1, 2, 3, 4] rfl)
    by_cases hk30 : j = 30
    · subst hk30
      refine lv_tableIn (x := nI 30) (off := 1862) (tgt := 1902) hx hb dL_law__40 (by decide) (by decide) rfl (by decide) ?_
      exact w_30 l hfl g hAe hA hbA St hr hlocks hX hbl hK hT q1 ta_2 o_3 lo_4 go_5 tt_6 lt_7 mo_8 fo_9 ro_10 ab_11 ac_12 ar_13 td_14 a_15 tda_16 ldr_17 lda_18 qT_19 qL_20 it_21 il_22 ig_23 fT_24 fL_25 ia_26 ic_27 ir_28 t0_29 ta0_30 l0_31 la0_32 od_33 ad_34 af_35 q37 a_38 m0_39 q41 hT0 hL0 hm h8 h10 H locs ls hP hD hS (lv_sub hl [0, 1, 2, 3, 4] rfl)
    by_cases hk31 : j = 31
    · subst hk31
      refine lv_tableIn (x := nI 31) (off := 1934) (tgt := 1974) hx hb dL_law__40 (by decide) (by decide) rfl (by decide) ?_
      exact w_31 l hfl g hAe hA hbA St hr hlocks hX hbl hK hT q1 ta_2 o_3 lo_4 go_5 tt_6 lt_7 mo_8 fo_9 ro_10 ab_11 ac_12 ar_13 td_14 a_15 tda_16 ldr_17 lda_18 qT_19 qL_20 it_21 il_22 ig_23 fT_24 fL_25 ia_26 ic_27 ir_28 t0_29 ta0_30 l0_31 la0_32 od_33 ad_34 af_35 q37 a_38 m0_39 q41 hT0 hL0 hm h8 h10 H locs ls hP hD hS (lv_sub hl [0, 1, 2, 3, 4] rfl)
    by_cases hk32 : j = 32
    · subst hk32
      refine lv_tableIn (x := nI 32) (off := 1978) (tgt := 2018) hx hb dL_law__40 (by decide) (by decide) rfl (by decide) ?_
      exact w_32 l hfl g hAe hA hbA St hr hlocks hX hbl hK hT q1 ta_2 o_3 lo_4 go_5 tt_6 lt_7 mo_8 fo_9 ro_10 ab_11 ac_12 ar_13 td_14 a_15 tda_16 ldr_17 lda_18 qT_19 qL_20 it_21 il_22 ig_23 fT_24 fL_25 ia_26 ic_27 ir_28 t0_29 ta0_30 l0_31 la0_32 od_33 ad_34 af_35 q37 a_38 m0_39 q41 hT0 hL0 hm h8 h10 H locs ls hP hD hS (lv_sub hl [0, 1, 2, 3, 4] rfl)
    by_cases hk33 : j = 33
    · subst hk33
      refine lv_tableIn (x := nI 33) (off := 2034) (tgt := 2074) hx hb dL_law__40 (by decide) (by decide) rfl (by decide) ?_
      exact w_33 l hfl g hAe hA hbA St hr hlocks hX hbl hK hT q1 ta_2 o_3 lo_4 go_5 tt_6 lt_7 mo_8 fo_9 ro_10 ab_11 ac_12 ar_13 td_14 a_15 tda_16 ldr_17 lda_18 qT_19 qL_20 it_21 il_22 ig_23 fT_24 fL_25 ia_26 ic_27 ir_28 t0_29 ta0_30 l0_31 la0_32 od_33 ad_34 af_35 q37 a_38 m0_39 q41 hT0 hL0 hm h8 h10 H locs ls hP hD hS (lv_sub hl [0, 1, 2, 3, 4] rfl)
    by_cases hk34 : j = 34
    · subst hk34
      refine lv_tableIn (x := nI 34) (off := 2102) (tgt := 2142) hx hb dL_law__40 (by decide) (by decide) rfl (by decide) ?_
      exact w_34 l hfl g hAe hA hbA St hr hlocks hX hbl hK hT q1 ta_2 o_3 lo_4 go_5 tt_6 lt_7 mo_8 fo_9 ro_10 ab_11 ac_12 ar_13 td_14 a_15 tda_16 ldr_17 lda_18 qT_19 qL_20 it_21 il_22 ig_23 fT_24 fL_25 ia_26 ic_27 ir_28 t0_29 ta0_30 l0_31 la0_32 od_33 ad_34 af_35 q37 a_38 m0_39 q41 hT0 hL0 hm h8 h10 H locs ls hP hD hS (lv_sub hl [0, 1, 2, 3, 4] rfl)
    by_cases hk35 : j = 35
    · subst hk35
      refine lv_tableIn (x := nI 35) (off := 2115) (tgt := 2155) hx hb dL_law__40 (by decide) (by decide) rfl (by decide) ?_
      exact w_35 l hfl g hAe hA hbA St hr hlocks hX hbl hK hT q1 ta_2 o_3 lo_4 go_5 tt_6 lt_7 mo_8 fo_9 ro_10 ab_11 ac_12 ar_13 td_14 a_15 tda_16 ldr_17 lda_18 qT_19 qL_20 it_21 il_22 ig_23 fT_24 fL_25 ia_26 ic_27 ir_28 t0_29 ta0_30 l0_31 la0_32 od_33 ad_34 af_35 q37 a_38 m0_39 q41 hT0 hL0 hm h8 h10 H locs ls hP hD hS (lv_sub hl [0, 1, 2, 3, 4] rfl)
    by_cases hk36 : j = 36
    · subst hk36
      refine lv_tableIn (x := nI 36) (off := 2128) (tgt := 2168) hx hb dL_law__40 (by decide) (by decide) rfl (by decide) ?_
      exact w_36 l hfl g hAe hA hbA St hr hlocks hX hbl hK hT q1 ta_2 o_3 lo_4 go_5 tt_6 lt_7 mo_8 fo_9 ro_10 ab_11 ac_12 ar_13 td_14 a_15 tda_16 ldr_17 lda_18 qT_19 qL_20 it_21 il_22 ig_23 fT_24 fL_25 ia_26 ic_27 ir_28 t0_29 ta0_30 l0_31 la0_32 od_33 ad_34 af_35 q37 a_38 m0_39 q41 hT0 hL0 hm h8 h10 H locs ls hP hD hS (lv_sub hl [0, 1, 2, 3, 4] rfl)
    by_cases hk37 : j = 37
    · subst hk37
      refine lv_tableIn (x := nI 37) (off := 2196) (tgt := 2236) hx hb dL_law__40 (by decide) (by decide) rfl (by decide) ?_
      exact w_37 l hfl g hAe hA hbA St hr hlocks hX hbl hK hT q1 ta_2 o_3 lo_4 go_5 tt_6 lt_7 mo_8 fo_9 ro_10 ab_11 ac_12 ar_13 td_14 a_15 tda_16 ldr_17 lda_18 qT_19 qL_20 it_21 il_22 ig_23 fT_24 fL_25 ia_26 ic_27 ir_28 t0_29 ta0_30 l0_31 la0_32 od_33 ad_34 af_35 q37 a_38 m0_39 q41 hT0 hL0 hm h8 h10 H locs ls hP hD hS (lv_sub hl [0, 1, 2, 3, 4] rfl)
    by_cases hk38 : j = 38
    · subst hk38
      refine lv_tableIn (x := nI 38) (off := 2209) (tgt := 2249) hx hb dL_law__40 (by decide) (by decide) rfl (by decide) ?_
      exact w_38 l hfl g hAe hA hbA St hr hlocks hX hbl hK hT q1 ta_2 o_3 lo_4 go_5 tt_6 lt_7 mo_8 fo_9 ro_10 ab_11 ac_12 ar_13 td_14 a_15 tda_16 ldr_17 lda_18 qT_19 qL_20 it_21 il_22 ig_23 fT_24 fL_25 ia_26 ic_27 ir_28 t0_29 ta0_30 l0_31 la0_32 od_33 ad_34 af_35 q37 a_38 m0_39 q41 hT0 hL0 hm h8 h10 H locs ls hP hD hS (lv_sub hl [0, 1, 2, 3, 4] rfl)
    by_cases hk39 : j = 39
    · subst hk39
      refine lv_tableIn (x := nI 39) (off := 2222) (tgt := 2262) hx hb dL_law__40 (by decide) (by decide) rfl (by decide) ?_
      exact w_39 l hfl g hAe hA hbA St hr hlocks hX hbl hK hT q1 ta_2 o_3 lo_4 go_5 tt_6 lt_7 mo_8 fo_9 ro_10 ab_11 ac_12 ar_13 td_14 a_15 tda_16 ldr_17 lda_18 qT_19 qL_20 it_21 il_22 ig_23 fT_24 fL_25 ia_26 ic_27 ir_28 t0_29 ta0_30 l0_31 la0_32 od_33 ad_34 af_35 q37 a_38 m0_39 q41 hT0 hL0 hm h8 h10 H locs ls hP hD hS (lv_sub hl [0, 1, 2, 3, 4] rfl)
    by_cases hk40 : j = 40
    · subst hk40
      refine lv_tableIn (x := nI 40) (off := 2278) (tgt := 2318) hx hb dL_law__40 (by decide) (by decide) rfl (by decide) ?_
      exact w_40 l hfl g hAe hA hbA St hr hlocks hX hbl hK hT q1 ta_2 o_3 lo_4 go_5 tt_6 lt_7 mo_8 fo_9 ro_10 ab_11 ac_12 ar_13 td_14 a_15 tda_16 ldr_17 lda_18 qT_19 qL_20 it_21 il_22 ig_23 fT_24 fL_25 ia_26 ic_27 ir_28 t0_29 ta0_30 l0_31 la0_32 od_33 ad_34 af_35 q37 a_38 m0_39 q41 hT0 hL0 hm h8 h10 H locs ls hP hD hS (lv_sub hl [0, 1, 2, 3, 4] rfl)
    by_cases hk41 : j = 41
    · subst hk41
      refine lv_tableIn (x := nI 41) (off := 2291) (tgt := 2331) hx hb dL_law__40 (by decide) (by decide) rfl (by decide) ?_
      exact w_41 l hfl g hAe hA hbA St hr hlocks hX hbl hK hT q1 ta_2 o_3 lo_4 go_5 tt_6 lt_7 mo_8 fo_9 ro_10 ab_11 ac_12 ar_13 td_14 a_15 tda_16 ldr_17 lda_18 qT_19 qL_20 it_21 il_22 ig_23 fT_24 fL_25 ia_26 ic_27 ir_28 t0_29 ta0_30 l0_31 la0_32 od_33 ad_34 af_35 q37 a_38 m0_39 q41 hT0 hL0 hm h8 h10 H locs ls hP hD hS (lv_sub hl [0, 1, 2, 3, 4] rfl)
    by_cases hk42 : j = 42
    · subst hk42
      refine lv_tableIn (x := nI 42) (off := 2375) (tgt := 2415) hx hb dL_law__40 (by decide) (by decide) rfl (by decide) ?_
      exact w_42 l hfl g hAe hA hbA St hr hlocks hX hbl hK hT q1 ta_2 o_3 lo_4 go_5 tt_6 lt_7 mo_8 fo_9 ro_10 ab_11 ac_12 ar_13 td_14 a_15 tda_16 ldr_17 lda_18 qT_19 qL_20 it_21 il_22 ig_23 fT_24 fL_25 ia_26 ic_27 ir_28 t0_29 ta0_30 l0_31 la0_32 od_33 ad_34 af_35 q37 a_38 m0_39 q41 hT0 hL0 hm h8 h10 H locs ls hP hD hS (lv_sub hl [0, 1, 2, 3, 4] rfl)
    by_cases hk43 : j = 43
    · subst hk43
      refine lv_tableIn (x := nI 43) (off := 2459) (tgt := 2499) hx hb dL_law__40 (by decide) (by decide) rfl (by decide) ?_
      exact w_43 l hfl g hAe hA hbA St hr hlocks hX hbl hK hT q1 ta_2 o_3 lo_4 go_5 tt_6 lt_7 mo_8 fo_9 ro_10 ab_11 ac_12 ar_13 td_14 a_15 tda_16 ldr_17 lda_18 qT_19 qL_20 it_21 il_22 ig_23 fT_24 fL_25 ia_26 ic_27 ir_28 t0_29 ta0_30 l0_31 la0_32 od_33 ad_34 af_35 q37 a_38 m0_39 q41 hT0 hL0 hm h8 h10 H locs ls hP hD hS (lv_sub hl [0, 1, 2, 3, 4] rfl)
    by_cases hk44 : j = 44
    · subst hk44
      refine lv_tableIn (x := nI 44) (off := 2543) (tgt := 2583) hx hb dL_law__40 (by decide) (by decide) rfl (by decide) ?_
      exact w_44 l hfl g hAe hA hbA St hr hlocks hX hbl hK hT q1 ta_2 o_3 lo_4 go_5 tt_6 lt_7 mo_8 fo_9 ro_10 ab_11 ac_12 ar_13 td_14 a_15 tda_16 ldr_17 lda_18 qT_19 qL_20 it_21 il_22 ig_23 fT_24 fL_25 ia_26 ic_27 ir_28 t0_29 ta0_30 l0_31 la0_32 od_33 ad_34 af_35 q37 a_38 m0_39 q41 hT0 hL0 hm h8 h10 H locs ls hP hD hS (lv_sub hl [0, 1, 2, 3, 4] rfl)
    by_cases hk45 : j = 45
    · subst hk45
      refine lv_tableIn (x := nI 45) (off := 2611) (tgt := 2651) hx hb dL_law__40 (by decide) (by decide) rfl (by decide) ?_
      exact w_45 l hfl g hAe hA hbA St hr hlocks hX hbl hK hT q1 ta_2 o_3 lo_4 go_5 tt_6 lt_7 mo_8 fo_9 ro_10 ab_11 ac_12 ar_13 td_14 a_15 tda_16 ldr_17 lda_18 qT_19 qL_20 it_21 il_22 ig_23 fT_24 fL_25 ia_26 ic_27 ir_28 t0_29 ta0_30 l0_31 la0_32 od_33 ad_34 af_35 q37 a_38 m0_39 q41 hT0 hL0 hm h8 h10 H locs ls hP hD hS (lv_sub hl [0, 1, 2, 3, 4] rfl)
    by_cases hk46 : j = 46
    · subst hk46
      refine lv_tableIn (x := nI 46) (off := 2636) (tgt := 2676) hx hb dL_law__40 (by decide) (by decide) rfl (by decide) ?_
      exact w_46 l hfl g hAe hA hbA St hr hlocks hX hbl hK hT q1 ta_2 o_3 lo_4 go_5 tt_6 lt_7 mo_8 fo_9 ro_10 ab_11 ac_12 ar_13 td_14 a_15 tda_16 ldr_17 lda_18 qT_19 qL_20 it_21 il_22 ig_23 fT_24 fL_25 ia_26 ic_27 ir_28 t0_29 ta0_30 l0_31 la0_32 od_33 ad_34 af_35 q37 a_38 m0_39 q41 hT0 hL0 hm h8 h10 H locs ls hP hD hS (lv_sub hl [0, 1, 2, 3, 4] rfl)
    by_cases hk47 : j = 47
    · subst hk47
      refine lv_tableIn (x := nI 47) (off := 2649) (tgt := 2689) hx hb dL_law__40 (by decide) (by decide) rfl (by decide) ?_
      exact w_47 l hfl g hAe hA hbA St hr hlocks hX hbl hK hT q1 ta_2 o_3 lo_4 go_5 tt_6 lt_7 mo_8 fo_9 ro_10 ab_11 ac_12 ar_13 td_14 a_15 tda_16 ldr_17 lda_18 qT_19 qL_20 it_21 il_22 ig_23 fT_24 fL_25 ia_26 ic_27 ir_28 t0_29 ta0_30 l0_31 la0_32 od_33 ad_34 af_35 q37 a_38 m0_39 q41 hT0 hL0 hm h8 h10 H locs ls hP hD hS (lv_sub hl [0, 1, 2, 3, 4] rfl)
    by_cases hk48 : j = 48
    · subst hk48
      refine lv_tableIn (x := nI 48) (off := 2660) (tgt := 2700) hx hb dL_law__40 (by decide) (by decide) rfl (by decide) ?_
      exact w_48 l hfl g hAe hA hbA St hr hlocks hX hbl hK hT q1 ta_2 o_3 lo_4 go_5 tt_6 lt_7 mo_8 fo_9 ro_10 ab_11 ac_12 ar_13 td_14 a_15 tda_16 ldr_17 lda_18 qT_19 qL_20 it_21 il_22 ig_23 fT_24 fL_25 ia_26 ic_27 ir_28 t0_29 ta0_30 l0_31 la0_32 od_33 ad_34 af_35 q37 a_38 m0_39 q41 hT0 hL0 hm h8 h10 H locs ls hP hD hS (lv_sub hl [0, 1, 2, 3, 4] rfl)
    by_cases hk49 : j = 49
    · subst hk49
      refine lv_tableIn (x := nI 49) (off := 2673) (tgt := 2713) hx hb dL_law__40 (by decide) (by decide) rfl (by decide) ?_
      exact w_49 l hfl g hAe hA hbA St hr hlocks hX hbl hK hT q1 ta_2 o_3 lo_4 go_5 tt_6 lt_7 mo_8 fo_9 ro_10 ab_11 ac_12 ar_13 td_14 a_15 tda_16 ldr_17 lda_18 qT_19 qL_20 it_21 il_22 ig_23 fT_24 fL_25 ia_26 ic_27 ir_28 t0_29 ta0_30 l0_31 la0_32 od_33 ad_34 af_35 q37 a_38 m0_39 q41 hT0 hL0 hm h8 h10 H locs ls hP hD hS (lv_sub hl [0, 1, 2, 3, 4] rfl)
    refine lv_tableOut (tgt := 2738) hx hb dL_law__40 (Or.inr (by rw [nI_toInt (by omega)]; omega)) (by decide) ?_
    refine lv_iinc (v := 6) (lv' := [(4, .int 6), (3, .ref q41), (2, .ref q37), (1, .ref q1), (0, .ref b)]) hx hb dL_law__2738 hl (k := 0) rfl (by decide) (by decide) rfl (fun ls hl => ?_)
    refine lv_goto (tgt := 23) hx hb dL_law__2741 (by decide) ?_
    refine lv_iload hx hb dL_law__23 (lv_at hl 0 rfl) ?_
    refine lv_aload_n hx hb dL_law__25 rfl (lv_at hl 4 rfl) ?_
    refine va_slen hx hb hX hbl hbA hS dL_law__26 ?_
    refine ztop (r := 6) rfl ?_
    refine lv_bipush (v := 6) hx hb dL_law__27 (by decide) ?_
    refine lv_isub hx hb dL_law__29 ?_
    refine ztop (r := 0) (by decide) ?_
    refine lv_icmp_gt (tgt := 2744) hx hb dL_law__30 (by decide) (fun _ => ?_) (fun c49 => absurd (by decide) c49)
    refine lv_iconst (v := 1) hx hb dL_law__2744 (by decide) ?_
    refine va_forget (fun q hq => by have h9 := hS.2.2 q hq; rw [hAe] at h9; exact h9) ?_
    refine W.widen (k := 600002) (n := 7302232) (Nat.le_of_ble_eq_true rfl) (Nat.le_of_ble_eq_true rfl) ?_
    exact lw_ret hx hb hr hlocks dL_law__2745
