set_option maxRecDepth 100000 in
set_option maxHeartbeats 4000000 in
theorem c_l_copyFrom (l : Launch) (g : zG) (lo : Nat) (lc : Nat) (lz : Int32) (ll : Int32) (lm : Int32) (lg : Int32) (ld : Int32) (fc : Nat → Int32) (lo2 : Nat) (lc2 : Nat) (lz2 : Int32) (ll2 : Int32) (lm2 : Int32) (lg2 : Int32) (ld2 : Int32) (fc2 : Nat → Int32) (b_lz2 : 0 ≤ lz2.toInt ∧ lz2.toInt ≤ 400) : zM' g l yX1_copyFrom (Cond.code yX1_copyFrom cX1_copyFrom 2 none :: zB) ({ frames := 1, cells := 0, slots := 0, locals := 40 } : Room) [.ref lo, .ref lo2] [bLaw g lo lc lz ll lm lg ld fc, bLaw g lo2 lc2 lz2 ll2 lm2 lg2 ld2 fc2] (fun (h : Nat → Int32) => none) (fun (h : Nat → Int32) => True) (fun (h : Nat → Int32) => [bLaw g lo lc lz2 ll2 lm lg ld h, bLaw g lo2 lc2 lz2 ll2 lm2 lg2 ld2 fc2]) := by
  refine zM'.of (cc := cX1_copyFrom) (maxL := 2) (rt := none) (by decide) rfl (Nat.le_of_ble_eq_true rfl) ?_
  intro p e s m args below meth c A ls St hr hlocks hin hK hT hA hP hD hS hl
  obtain ⟨hx, hb, hml, hown, hts⟩ := id St
  have hl : lv_has ls 2 [(0, .ref lo), (1, .ref lo2)] := hl
  refine lv_aload_n hx hb dX1_copyFrom_0 rfl (lv_at hl 1 rfl) ?_
  refine va_get (D := g.1) (ci := 1) (v := .ref lc2) (C := RX1) (T := TX1) (N := 6) hx hb hts izRX1 hown hK hP 2 rfl rfl 0 (by decide) (hts _ k101) (fun _ h9 => h9) rfl dX1_copyFrom_1 ?_
  refine lv_iconst (v := 0) hx hb dX1_copyFrom_4 (by decide) ?_
  refine lv_aload_n hx hb dX1_copyFrom_5 rfl (lv_at hl 0 rfl) ?_
  refine va_get (D := g.1) (ci := 1) (v := .ref lc) (C := RX1) (T := TX1) (N := 6) hx hb hts izRX1 hown hK hP 0 rfl rfl 0 (by decide) (hts _ k101) (fun _ h9 => h9) rfl dX1_copyFrom_6 ?_
  refine lv_iconst (v := 0) hx hb dX1_copyFrom_9 (by decide) ?_
  refine lv_sipush (v := 400) hx hb dX1_copyFrom_10 (by decide) ?_
  refine va_copyi (D := g.1) (ty := .int) hx hb (by rw [hml]; exact hl.1.symm) hown (hts _ k201) (hts _ k36) (hts _ k37) (hts _ k38) hK hP hD hS 3 1 0 0 rfl rfl rfl rfl rfl (by decide) (by decide) (by decide) (by decide) (by decide) (fun _ _ => rfl) (Nat.le_of_ble_eq_true rfl) (by decide) dX1_copyFrom_13 (fun H locs hP hD hS => ?_)
  have hP : va_P g.1 vwCl (List.flatten [[(lo, .inr (1, [.ref lc, .int lz, .int ll, .int lm, .int lg, .int ld])), (lc, .inl (g.2 0, 400, .inl (va_cpy fc2 fc 0 0 400)))], bLaw g lo2 lc2 lz2 ll2 lm2 lg2 ld2 fc2]) H := hP
  have hD : va_D A (List.flatten [[(lo, .inr (1, [.ref lc, .int lz, .int ll, .int lm, .int lg, .int ld])), (lc, .inl (g.2 0, 400, .inl (va_cpy fc2 fc 0 0 400)))], bLaw g lo2 lc2 lz2 ll2 lm2 lg2 ld2 fc2]) := hD
  refine lv_aload_n hx hb dX1_copyFrom_16 rfl (lv_at hl 0 rfl) ?_
  refine lv_aload_n hx hb dX1_copyFrom_17 rfl (lv_at hl 1 rfl) ?_
  refine va_get (D := g.1) (ci := 1) (v := .int lz2) (C := RX1) (T := TX1) (N := 6) hx hb hts izRX1 hown hK hP 2 rfl rfl 1 (by decide) (hts _ k100) (fun _ h9 => h9) rfl dX1_copyFrom_18 ?_
  refine va_put (D := g.1) (ci := 1) (v := .int lz2) (ty := .int) (C := RX1) (T := TX1) (N := 6) hx hb hts izRX1 tyX1 tyX1_ok nmX1 hown hK hP hD hS 0 rfl rfl 1 (by decide) (hts _ k100) (fun _ h9 => h9) rfl (by decide +kernel) rfl rfl (Nat.le_of_ble_eq_true rfl) dX1_copyFrom_21 (fun H locs hP hD hS => ?_)
  have hP : va_P g.1 vwCl (List.flatten [[(lo, .inr (1, [.ref lc, .int lz2, .int ll, .int lm, .int lg, .int ld])), (lc, .inl (g.2 0, 400, .inl (va_cpy fc2 fc 0 0 400)))], bLaw g lo2 lc2 lz2 ll2 lm2 lg2 ld2 fc2]) H := hP
  have hD : va_D A (List.flatten [[(lo, .inr (1, [.ref lc, .int lz2, .int ll, .int lm, .int lg, .int ld])), (lc, .inl (g.2 0, 400, .inl (va_cpy fc2 fc 0 0 400)))], bLaw g lo2 lc2 lz2 ll2 lm2 lg2 ld2 fc2]) := hD
  refine lv_aload_n hx hb dX1_copyFrom_24 rfl (lv_at hl 0 rfl) ?_
  refine lv_aload_n hx hb dX1_copyFrom_25 rfl (lv_at hl 1 rfl) ?_
  refine va_get (D := g.1) (ci := 1) (v := .int ll2) (C := RX1) (T := TX1) (N := 6) hx hb hts izRX1 hown hK hP 2 rfl rfl 2 (by decide) (hts _ k98) (fun _ h9 => h9) rfl dX1_copyFrom_26 ?_
  refine va_put (D := g.1) (ci := 1) (v := .int ll2) (ty := .int) (C := RX1) (T := TX1) (N := 6) hx hb hts izRX1 tyX1 tyX1_ok nmX1 hown hK hP hD hS 0 rfl rfl 2 (by decide) (hts _ k98) (fun _ h9 => h9) rfl (by decide +kernel) rfl rfl (Nat.le_of_ble_eq_true rfl) dX1_copyFrom_29 (fun H locs hP hD hS => ?_)
  have hP : va_P g.1 vwCl (List.flatten [[(lo, .inr (1, [.ref lc, .int lz2, .int ll2, .int lm, .int lg, .int ld])), (lc, .inl (g.2 0, 400, .inl (va_cpy fc2 fc 0 0 400)))], bLaw g lo2 lc2 lz2 ll2 lm2 lg2 ld2 fc2]) H := hP
  have hD : va_D A (List.flatten [[(lo, .inr (1, [.ref lc, .int lz2, .int ll2, .int lm, .int lg, .int ld])), (lc, .inl (g.2 0, 400, .inl (va_cpy fc2 fc 0 0 400)))], bLaw g lo2 lc2 lz2 ll2 lm2 lg2 ld2 fc2]) := hD
  have hP : va_P g.1 vwCl (List.flatten [bLaw g lo lc lz2 ll2 lm lg ld (va_cpy fc2 fc 0 0 400), bLaw g lo2 lc2 lz2 ll2 lm2 lg2 ld2 fc2]) H := hP
  have hD : va_D A (List.flatten [bLaw g lo lc lz2 ll2 lm lg ld (va_cpy fc2 fc 0 0 400), bLaw g lo2 lc2 lz2 ll2 lm2 lg2 ld2 fc2]) := hD
  exact mret_v hx hb hr hlocks hS (Nat.le_of_ble_eq_true rfl) (Nat.le_of_ble_eq_true rfl) dX1_copyFrom_32 (va_cpy fc2 fc 0 0 400) rfl trivial hP hD
