set_option maxRecDepth 100000 in
set_option maxHeartbeats 4000000 in
theorem c_copyFrom (l : Launch) (g : zG) (o : Nat) (a : Nat → Nat) (pe : Int32) (wo : Int32) (tx : Int32) (ch : Int32) (jo : Int32) (tr : Int32) (dy : Int32) (sd : Int32) (f : Nat → Nat → Int32) (o2 : Nat) (a2 : Nat → Nat) (pe2 : Int32) (wo2 : Int32) (tx2 : Int32) (ch2 : Int32) (jo2 : Int32) (tr2 : Int32) (dy2 : Int32) (sd2 : Int32) (f2 : Nat → Nat → Int32) (b_pe2 : 0 ≤ pe2.toInt ∧ pe2.toInt ≤ 8) (b_wo2 : 0 ≤ wo2.toInt ∧ wo2.toInt ≤ 6) (rf2 : zZ4 f2) : zM' g l yX9_copyFrom (Cond.code yX9_copyFrom cX9_copyFrom 2 none :: zB) ({ frames := 1, cells := 0, slots := 0, locals := 40 } : Room) [.ref o, .ref o2] [bTown g o a pe wo tx ch jo tr dy sd f, bTown g o2 a2 pe2 wo2 tx2 ch2 jo2 tr2 dy2 sd2 f2] (fun (h : Nat → Nat → Int32) => none) (fun (h : Nat → Nat → Int32) => (zZ4 h)) (fun (h : Nat → Nat → Int32) => [bTown g o a pe2 wo2 tx2 ch2 jo2 tr2 dy2 sd2 h, bTown g o2 a2 pe2 wo2 tx2 ch2 jo2 tr2 dy2 sd2 f2]) := by
  refine zM'.of (cc := cX9_copyFrom) (maxL := 2) (rt := none) (by decide) rfl (Nat.le_of_ble_eq_true rfl) ?_
  intro p e s m args below meth c A ls St hr hlocks hin hK hT hA hP hD hS hl
  obtain ⟨hx, hb, hml, hown, hts⟩ := id St
  have hl : lv_has ls 2 [(0, .ref o), (1, .ref o2)] := hl
  refine lv_aload_n hx hb dX9_copyFrom_0 rfl (lv_at hl 0 rfl) ?_
  refine lv_aload_n hx hb dX9_copyFrom_1 rfl (lv_at hl 1 rfl) ?_
  refine va_get (D := g.1) (ci := 7) (v := .int pe2) (C := RX9) (T := TX9) (N := 19) hx hb hts izRX9 hown hK hP 12 rfl rfl 0 (by decide) (hts _ k31) (fun _ h9 => h9) rfl dX9_copyFrom_2 ?_
  refine va_put (D := g.1) (ci := 7) (v := .int pe2) (ty := .int) (C := RX9) (T := TX9) (N := 19) hx hb hts izRX9 tyX9 tyX9_ok nmX9 hown hK hP hD hS 0 rfl rfl 0 (by decide) (hts _ k31) (fun _ h9 => h9) rfl (by decide +kernel) rfl rfl (Nat.le_of_ble_eq_true rfl) dX9_copyFrom_5 (fun H locs hP hD hS => ?_)
  have hP : va_P g.1 vwCl (List.flatten [bTown g o a pe2 wo tx ch jo tr dy sd f, bTown g o2 a2 pe2 wo2 tx2 ch2 jo2 tr2 dy2 sd2 f2]) H := hP
  have hD : va_D A (List.flatten [bTown g o a pe2 wo tx ch jo tr dy sd f, bTown g o2 a2 pe2 wo2 tx2 ch2 jo2 tr2 dy2 sd2 f2]) := hD
  refine lv_aload_n hx hb dX9_copyFrom_8 rfl (lv_at hl 0 rfl) ?_
  refine lv_aload_n hx hb dX9_copyFrom_9 rfl (lv_at hl 1 rfl) ?_
  refine va_get (D := g.1) (ci := 7) (v := .int wo2) (C := RX9) (T := TX9) (N := 19) hx hb hts izRX9 hown hK hP 12 rfl rfl 1 (by decide) (hts _ k32) (fun _ h9 => h9) rfl dX9_copyFrom_10 ?_
  refine va_put (D := g.1) (ci := 7) (v := .int wo2) (ty := .int) (C := RX9) (T := TX9) (N := 19) hx hb hts izRX9 tyX9 tyX9_ok nmX9 hown hK hP hD hS 0 rfl rfl 1 (by decide) (hts _ k32) (fun _ h9 => h9) rfl (by decide +kernel) rfl rfl (Nat.le_of_ble_eq_true rfl) dX9_copyFrom_13 (fun H locs hP hD hS => ?_)
  have hP : va_P g.1 vwCl (List.flatten [bTown g o a pe2 wo2 tx ch jo tr dy sd f, bTown g o2 a2 pe2 wo2 tx2 ch2 jo2 tr2 dy2 sd2 f2]) H := hP
  have hD : va_D A (List.flatten [bTown g o a pe2 wo2 tx ch jo tr dy sd f, bTown g o2 a2 pe2 wo2 tx2 ch2 jo2 tr2 dy2 sd2 f2]) := hD
  refine lv_aload_n hx hb dX9_copyFrom_16 rfl (lv_at hl 0 rfl) ?_
  refine lv_aload_n hx hb dX9_copyFrom_17 rfl (lv_at hl 1 rfl) ?_
  refine va_get (D := g.1) (ci := 7) (v := .int tx2) (C := RX9) (T := TX9) (N := 19) hx hb hts izRX9 hown hK hP 12 rfl rfl 2 (by decide) (hts _ k33) (fun _ h9 => h9) rfl dX9_copyFrom_18 ?_
  refine va_put (D := g.1) (ci := 7) (v := .int tx2) (ty := .int) (C := RX9) (T := TX9) (N := 19) hx hb hts izRX9 tyX9 tyX9_ok nmX9 hown hK hP hD hS 0 rfl rfl 2 (by decide) (hts _ k33) (fun _ h9 => h9) rfl (by decide +kernel) rfl rfl (Nat.le_of_ble_eq_true rfl) dX9_copyFrom_21 (fun H locs hP hD hS => ?_)
  have hP : va_P g.1 vwCl (List.flatten [bTown g o a pe2 wo2 tx2 ch jo tr dy sd f, bTown g o2 a2 pe2 wo2 tx2 ch2 jo2 tr2 dy2 sd2 f2]) H := hP
  have hD : va_D A (List.flatten [bTown g o a pe2 wo2 tx2 ch jo tr dy sd f, bTown g o2 a2 pe2 wo2 tx2 ch2 jo2 tr2 dy2 sd2 f2]) := hD
  refine lv_aload_n hx hb dX9_copyFrom_24 rfl (lv_at hl 0 rfl) ?_
  refine lv_aload_n hx hb dX9_copyFrom_25 rfl (lv_at hl 1 rfl) ?_
  refine va_get (D := g.1) (ci := 7) (v := .int ch2) (C := RX9) (T := TX9) (N := 19) hx hb hts izRX9 hown hK hP 12 rfl rfl 3 (by decide) (hts _ k4) (fun _ h9 => h9) rfl dX9_copyFrom_26 ?_
  refine va_put (D := g.1) (ci := 7) (v := .int ch2) (ty := .int) (C := RX9) (T := TX9) (N := 19) hx hb hts izRX9 tyX9 tyX9_ok nmX9 hown hK hP hD hS 0 rfl rfl 3 (by decide) (hts _ k4) (fun _ h9 => h9) rfl (by decide +kernel) rfl rfl (Nat.le_of_ble_eq_true rfl) dX9_copyFrom_29 (fun H locs hP hD hS => ?_)
  have hP : va_P g.1 vwCl (List.flatten [bTown g o a pe2 wo2 tx2 ch2 jo tr dy sd f, bTown g o2 a2 pe2 wo2 tx2 ch2 jo2 tr2 dy2 sd2 f2]) H := hP
  have hD : va_D A (List.flatten [bTown g o a pe2 wo2 tx2 ch2 jo tr dy sd f, bTown g o2 a2 pe2 wo2 tx2 ch2 jo2 tr2 dy2 sd2 f2]) := hD
  refine lv_aload_n hx hb dX9_copyFrom_32 rfl (lv_at hl 0 rfl) ?_
  refine lv_aload_n hx hb dX9_copyFrom_33 rfl (lv_at hl 1 rfl) ?_
  refine va_get (D := g.1) (ci := 7) (v := .int jo2) (C := RX9) (T := TX9) (N := 19) hx hb hts izRX9 hown hK hP 12 rfl rfl 4 (by decide) (hts _ k5) (fun _ h9 => h9) rfl dX9_copyFrom_34 ?_
  refine va_put (D := g.1) (ci := 7) (v := .int jo2) (ty := .int) (C := RX9) (T := TX9) (N := 19) hx hb hts izRX9 tyX9 tyX9_ok nmX9 hown hK hP hD hS 0 rfl rfl 4 (by decide) (hts _ k5) (fun _ h9 => h9) rfl (by decide +kernel) rfl rfl (Nat.le_of_ble_eq_true rfl) dX9_copyFrom_37 (fun H locs hP hD hS => ?_)
  have hP : va_P g.1 vwCl (List.flatten [bTown g o a pe2 wo2 tx2 ch2 jo2 tr dy sd f, bTown g o2 a2 pe2 wo2 tx2 ch2 jo2 tr2 dy2 sd2 f2]) H := hP
  have hD : va_D A (List.flatten [bTown g o a pe2 wo2 tx2 ch2 jo2 tr dy sd f, bTown g o2 a2 pe2 wo2 tx2 ch2 jo2 tr2 dy2 sd2 f2]) := hD
  refine lv_aload_n hx hb dX9_copyFrom_40 rfl (lv_at hl 0 rfl) ?_
  refine lv_aload_n hx hb dX9_copyFrom_41 rfl (lv_at hl 1 rfl) ?_
  refine va_get (D := g.1) (ci := 7) (v := .int tr2) (C := RX9) (T := TX9) (N := 19) hx hb hts izRX9 hown hK hP 12 rfl rfl 5 (by decide) (hts _ k6) (fun _ h9 => h9) rfl dX9_copyFrom_42 ?_
  refine va_put (D := g.1) (ci := 7) (v := .int tr2) (ty := .int) (C := RX9) (T := TX9) (N := 19) hx hb hts izRX9 tyX9 tyX9_ok nmX9 hown hK hP hD hS 0 rfl rfl 5 (by decide) (hts _ k6) (fun _ h9 => h9) rfl (by decide +kernel) rfl rfl (Nat.le_of_ble_eq_true rfl) dX9_copyFrom_45 (fun H locs hP hD hS => ?_)
  have hP : va_P g.1 vwCl (List.flatten [bTown g o a pe2 wo2 tx2 ch2 jo2 tr2 dy sd f, bTown g o2 a2 pe2 wo2 tx2 ch2 jo2 tr2 dy2 sd2 f2]) H := hP
  have hD : va_D A (List.flatten [bTown g o a pe2 wo2 tx2 ch2 jo2 tr2 dy sd f, bTown g o2 a2 pe2 wo2 tx2 ch2 jo2 tr2 dy2 sd2 f2]) := hD
  refine lv_aload_n hx hb dX9_copyFrom_48 rfl (lv_at hl 0 rfl) ?_
  refine lv_aload_n hx hb dX9_copyFrom_49 rfl (lv_at hl 1 rfl) ?_
  refine va_get (D := g.1) (ci := 7) (v := .int dy2) (C := RX9) (T := TX9) (N := 19) hx hb hts izRX9 hown hK hP 12 rfl rfl 6 (by decide) (hts _ k34) (fun _ h9 => h9) rfl dX9_copyFrom_50 ?_
  refine va_put (D := g.1) (ci := 7) (v := .int dy2) (ty := .int) (C := RX9) (T := TX9) (N := 19) hx hb hts izRX9 tyX9 tyX9_ok nmX9 hown hK hP hD hS 0 rfl rfl 6 (by decide) (hts _ k34) (fun _ h9 => h9) rfl (by decide +kernel) rfl rfl (Nat.le_of_ble_eq_true rfl) dX9_copyFrom_53 (fun H locs hP hD hS => ?_)
  have hP : va_P g.1 vwCl (List.flatten [bTown g o a pe2 wo2 tx2 ch2 jo2 tr2 dy2 sd f, bTown g o2 a2 pe2 wo2 tx2 ch2 jo2 tr2 dy2 sd2 f2]) H := hP
  have hD : va_D A (List.flatten [bTown g o a pe2 wo2 tx2 ch2 jo2 tr2 dy2 sd f, bTown g o2 a2 pe2 wo2 tx2 ch2 jo2 tr2 dy2 sd2 f2]) := hD
  refine lv_aload_n hx hb dX9_copyFrom_56 rfl (lv_at hl 0 rfl) ?_
  refine lv_aload_n hx hb dX9_copyFrom_57 rfl (lv_at hl 1 rfl) ?_
  refine va_get (D := g.1) (ci := 7) (v := .int sd2) (C := RX9) (T := TX9) (N := 19) hx hb hts izRX9 hown hK hP 12 rfl rfl 7 (by decide) (hts _ k7) (fun _ h9 => h9) rfl dX9_copyFrom_58 ?_
  refine va_put (D := g.1) (ci := 7) (v := .int sd2) (ty := .int) (C := RX9) (T := TX9) (N := 19) hx hb hts izRX9 tyX9 tyX9_ok nmX9 hown hK hP hD hS 0 rfl rfl 7 (by decide) (hts _ k7) (fun _ h9 => h9) rfl (by decide +kernel) rfl rfl (Nat.le_of_ble_eq_true rfl) dX9_copyFrom_61 (fun H locs hP hD hS => ?_)
  have hP : va_P g.1 vwCl (List.flatten [bTown g o a pe2 wo2 tx2 ch2 jo2 tr2 dy2 sd2 f, bTown g o2 a2 pe2 wo2 tx2 ch2 jo2 tr2 dy2 sd2 f2]) H := hP
  have hD : va_D A (List.flatten [bTown g o a pe2 wo2 tx2 ch2 jo2 tr2 dy2 sd2 f, bTown g o2 a2 pe2 wo2 tx2 ch2 jo2 tr2 dy2 sd2 f2]) := hD
  refine lv_aload_n hx hb dX9_copyFrom_64 rfl (lv_at hl 1 rfl) ?_
  refine va_get (D := g.1) (ci := 7) (v := .ref (a2 0)) (C := RX9) (T := TX9) (N := 19) hx hb hts izRX9 hown hK hP 12 rfl rfl 8 (by decide) (hts _ k9) (fun _ h9 => h9) rfl dX9_copyFrom_65 ?_
  refine lv_iconst (v := 0) hx hb dX9_copyFrom_68 (by decide) ?_
  refine lv_aload_n hx hb dX9_copyFrom_69 rfl (lv_at hl 0 rfl) ?_
  refine va_get (D := g.1) (ci := 7) (v := .ref (a 0)) (C := RX9) (T := TX9) (N := 19) hx hb hts izRX9 hown hK hP 0 rfl rfl 8 (by decide) (hts _ k9) (fun _ h9 => h9) rfl dX9_copyFrom_70 ?_
  refine lv_iconst (v := 0) hx hb dX9_copyFrom_73 (by decide) ?_
  refine lv_bipush (v := 8) hx hb dX9_copyFrom_74 (by decide) ?_
  refine va_copyi (D := g.1) (ty := .int) hx hb (by rw [hml]; exact hl.1.symm) hown (hts _ k35) (hts _ k36) (hts _ k37) (hts _ k38) hK hP hD hS 13 1 0 0 rfl rfl rfl rfl rfl (by decide) (by decide) (by decide) (by decide) (by decide) (fun _ _ => rfl) (Nat.le_of_ble_eq_true rfl) (by decide) dX9_copyFrom_76 (fun H locs hP hD hS => ?_)
  have hP : va_P g.1 vwCl (List.flatten [[(o, .inr (7, [.int pe2, .int wo2, .int tx2, .int ch2, .int jo2, .int tr2, .int dy2, .int sd2, .ref (a 0), .ref (a 1), .ref (a 2), .ref (a 3), .ref (a 4), .ref (a 5), .ref (a 6), .ref (a 7), .ref (a 8), .ref (a 9), .ref (a 10)])), (a 0, .inl (g.2 0, 8, .inl (va_cpy (f2 0) (f 0) 0 0 8))), (a 1, .inl (g.2 0, 8, .inl (f 1))), (a 2, .inl (g.2 0, 8, .inl (f 2))), (a 3, .inl (g.2 0, 8, .inl (f 3))), (a 4, .inl (g.2 1, 8, .inl (f 4))), (a 5, .inl (g.2 0, 64, .inl (f 5))), (a 6, .inl (g.2 0, 6, .inl (f 6))), (a 7, .inl (g.2 0, 6, .inl (f 7))), (a 8, .inl (g.2 0, 6, .inl (f 8))), (a 9, .inl (g.2 0, 6, .inl (f 9))), (a 10, .inl (g.2 0, 8, .inl (f 10)))], bTown g o2 a2 pe2 wo2 tx2 ch2 jo2 tr2 dy2 sd2 f2]) H := hP
  have hD : va_D A (List.flatten [[(o, .inr (7, [.int pe2, .int wo2, .int tx2, .int ch2, .int jo2, .int tr2, .int dy2, .int sd2, .ref (a 0), .ref (a 1), .ref (a 2), .ref (a 3), .ref (a 4), .ref (a 5), .ref (a 6), .ref (a 7), .ref (a 8), .ref (a 9), .ref (a 10)])), (a 0, .inl (g.2 0, 8, .inl (va_cpy (f2 0) (f 0) 0 0 8))), (a 1, .inl (g.2 0, 8, .inl (f 1))), (a 2, .inl (g.2 0, 8, .inl (f 2))), (a 3, .inl (g.2 0, 8, .inl (f 3))), (a 4, .inl (g.2 1, 8, .inl (f 4))), (a 5, .inl (g.2 0, 64, .inl (f 5))), (a 6, .inl (g.2 0, 6, .inl (f 6))), (a 7, .inl (g.2 0, 6, .inl (f 7))), (a 8, .inl (g.2 0, 6, .inl (f 8))), (a 9, .inl (g.2 0, 6, .inl (f 9))), (a 10, .inl (g.2 0, 8, .inl (f 10)))], bTown g o2 a2 pe2 wo2 tx2 ch2 jo2 tr2 dy2 sd2 f2]) := hD
  refine lv_aload_n hx hb dX9_copyFrom_79 rfl (lv_at hl 1 rfl) ?_
  refine va_get (D := g.1) (ci := 7) (v := .ref (a2 1)) (C := RX9) (T := TX9) (N := 19) hx hb hts izRX9 hown hK hP 12 rfl rfl 9 (by decide) (hts _ k10) (fun _ h9 => h9) rfl dX9_copyFrom_80 ?_
  refine lv_iconst (v := 0) hx hb dX9_copyFrom_83 (by decide) ?_
  refine lv_aload_n hx hb dX9_copyFrom_84 rfl (lv_at hl 0 rfl) ?_
  refine va_get (D := g.1) (ci := 7) (v := .ref (a 1)) (C := RX9) (T := TX9) (N := 19) hx hb hts izRX9 hown hK hP 0 rfl rfl 9 (by decide) (hts _ k10) (fun _ h9 => h9) rfl dX9_copyFrom_85 ?_
  refine lv_iconst (v := 0) hx hb dX9_copyFrom_88 (by decide) ?_
  refine lv_bipush (v := 8) hx hb dX9_copyFrom_89 (by decide) ?_
  refine va_copyi (D := g.1) (ty := .int) hx hb (by rw [hml]; exact hl.1.symm) hown (hts _ k35) (hts _ k36) (hts _ k37) (hts _ k38) hK hP hD hS 14 2 0 0 rfl rfl rfl rfl rfl (by decide) (by decide) (by decide) (by decide) (by decide) (fun _ _ => rfl) (Nat.le_of_ble_eq_true rfl) (by decide) dX9_copyFrom_91 (fun H locs hP hD hS => ?_)
  have hP : va_P g.1 vwCl (List.flatten [[(o, .inr (7, [.int pe2, .int wo2, .int tx2, .int ch2, .int jo2, .int tr2, .int dy2, .int sd2, .ref (a 0), .ref (a 1), .ref (a 2), .ref (a 3), .ref (a 4), .ref (a 5), .ref (a 6), .ref (a 7), .ref (a 8), .ref (a 9), .ref (a 10)])), (a 0, .inl (g.2 0, 8, .inl (va_cpy (f2 0) (f 0) 0 0 8))), (a 1, .inl (g.2 0, 8, .inl (va_cpy (f2 1) (f 1) 0 0 8))), (a 2, .inl (g.2 0, 8, .inl (f 2))), (a 3, .inl (g.2 0, 8, .inl (f 3))), (a 4, .inl (g.2 1, 8, .inl (f 4))), (a 5, .inl (g.2 0, 64, .inl (f 5))), (a 6, .inl (g.2 0, 6, .inl (f 6))), (a 7, .inl (g.2 0, 6, .inl (f 7))), (a 8, .inl (g.2 0, 6, .inl (f 8))), (a 9, .inl (g.2 0, 6, .inl (f 9))), (a 10, .inl (g.2 0, 8, .inl (f 10)))], bTown g o2 a2 pe2 wo2 tx2 ch2 jo2 tr2 dy2 sd2 f2]) H := hP
  have hD : va_D A (List.flatten [[(o, .inr (7, [.int pe2, .int wo2, .int tx2, .int ch2, .int jo2, .int tr2, .int dy2, .int sd2, .ref (a 0), .ref (a 1), .ref (a 2), .ref (a 3), .ref (a 4), .ref (a 5), .ref (a 6), .ref (a 7), .ref (a 8), .ref (a 9), .ref (a 10)])), (a 0, .inl (g.2 0, 8, .inl (va_cpy (f2 0) (f 0) 0 0 8))), (a 1, .inl (g.2 0, 8, .inl (va_cpy (f2 1) (f 1) 0 0 8))), (a 2, .inl (g.2 0, 8, .inl (f 2))), (a 3, .inl (g.2 0, 8, .inl (f 3))), (a 4, .inl (g.2 1, 8, .inl (f 4))), (a 5, .inl (g.2 0, 64, .inl (f 5))), (a 6, .inl (g.2 0, 6, .inl (f 6))), (a 7, .inl (g.2 0, 6, .inl (f 7))), (a 8, .inl (g.2 0, 6, .inl (f 8))), (a 9, .inl (g.2 0, 6, .inl (f 9))), (a 10, .inl (g.2 0, 8, .inl (f 10)))], bTown g o2 a2 pe2 wo2 tx2 ch2 jo2 tr2 dy2 sd2 f2]) := hD
  refine lv_aload_n hx hb dX9_copyFrom_94 rfl (lv_at hl 1 rfl) ?_
  refine va_get (D := g.1) (ci := 7) (v := .ref (a2 2)) (C := RX9) (T := TX9) (N := 19) hx hb hts izRX9 hown hK hP 12 rfl rfl 10 (by decide) (hts _ k11) (fun _ h9 => h9) rfl dX9_copyFrom_95 ?_
  refine lv_iconst (v := 0) hx hb dX9_copyFrom_98 (by decide) ?_
  refine lv_aload_n hx hb dX9_copyFrom_99 rfl (lv_at hl 0 rfl) ?_
  refine va_get (D := g.1) (ci := 7) (v := .ref (a 2)) (C := RX9) (T := TX9) (N := 19) hx hb hts izRX9 hown hK hP 0 rfl rfl 10 (by decide) (hts _ k11) (fun _ h9 => h9) rfl dX9_copyFrom_100 ?_
  refine lv_iconst (v := 0) hx hb dX9_copyFrom_103 (by decide) ?_
  refine lv_bipush (v := 8) hx hb dX9_copyFrom_104 (by decide) ?_
  refine va_copyi (D := g.1) (ty := .int) hx hb (by rw [hml]; exact hl.1.symm) hown (hts _ k35) (hts _ k36) (hts _ k37) (hts _ k38) hK hP hD hS 15 3 0 0 rfl rfl rfl rfl rfl (by decide) (by decide) (by decide) (by decide) (by decide) (fun _ _ => rfl) (Nat.le_of_ble_eq_true rfl) (by decide) dX9_copyFrom_106 (fun H locs hP hD hS => ?_)
  have hP : va_P g.1 vwCl (List.flatten [[(o, .inr (7, [.int pe2, .int wo2, .int tx2, .int ch2, .int jo2, .int tr2, .int dy2, .int sd2, .ref (a 0), .ref (a 1), .ref (a 2), .ref (a 3), .ref (a 4), .ref (a 5), .ref (a 6), .ref (a 7), .ref (a 8), .ref (a 9), .ref (a 10)])), (a 0, .inl (g.2 0, 8, .inl (va_cpy (f2 0) (f 0) 0 0 8))), (a 1, .inl (g.2 0, 8, .inl (va_cpy (f2 1) (f 1) 0 0 8))), (a 2, .inl (g.2 0, 8, .inl (va_cpy (f2 2) (f 2) 0 0 8))), (a 3, .inl (g.2 0, 8, .inl (f 3))), (a 4, .inl (g.2 1, 8, .inl (f 4))), (a 5, .inl (g.2 0, 64, .inl (f 5))), (a 6, .inl (g.2 0, 6, .inl (f 6))), (a 7, .inl (g.2 0, 6, .inl (f 7))), (a 8, .inl (g.2 0, 6, .inl (f 8))), (a 9, .inl (g.2 0, 6, .inl (f 9))), (a 10, .inl (g.2 0, 8, .inl (f 10)))], bTown g o2 a2 pe2 wo2 tx2 ch2 jo2 tr2 dy2 sd2 f2]) H := hP
  have hD : va_D A (List.flatten [[(o, .inr (7, [.int pe2, .int wo2, .int tx2, .int ch2, .int jo2, .int tr2, .int dy2, .int sd2, .ref (a 0), .ref (a 1), .ref (a 2), .ref (a 3), .ref (a 4), .ref (a 5), .ref (a 6), .ref (a 7), .ref (a 8), .ref (a 9), .ref (a 10)])), (a 0, .inl (g.2 0, 8, .inl (va_cpy (f2 0) (f 0) 0 0 8))), (a 1, .inl (g.2 0, 8, .inl (va_cpy (f2 1) (f 1) 0 0 8))), (a 2, .inl (g.2 0, 8, .inl (va_cpy (f2 2) (f 2) 0 0 8))), (a 3, .inl (g.2 0, 8, .inl (f 3))), (a 4, .inl (g.2 1, 8, .inl (f 4))), (a 5, .inl (g.2 0, 64, .inl (f 5))), (a 6, .inl (g.2 0, 6, .inl (f 6))), (a 7, .inl (g.2 0, 6, .inl (f 7))), (a 8, .inl (g.2 0, 6, .inl (f 8))), (a 9, .inl (g.2 0, 6, .inl (f 9))), (a 10, .inl (g.2 0, 8, .inl (f 10)))], bTown g o2 a2 pe2 wo2 tx2 ch2 jo2 tr2 dy2 sd2 f2]) := hD
  refine lv_aload_n hx hb dX9_copyFrom_109 rfl (lv_at hl 1 rfl) ?_
  refine va_get (D := g.1) (ci := 7) (v := .ref (a2 3)) (C := RX9) (T := TX9) (N := 19) hx hb hts izRX9 hown hK hP 12 rfl rfl 11 (by decide) (hts _ k12) (fun _ h9 => h9) rfl dX9_copyFrom_110 ?_
  refine lv_iconst (v := 0) hx hb dX9_copyFrom_113 (by decide) ?_
  refine lv_aload_n hx hb dX9_copyFrom_114 rfl (lv_at hl 0 rfl) ?_
  refine va_get (D := g.1) (ci := 7) (v := .ref (a 3)) (C := RX9) (T := TX9) (N := 19) hx hb hts izRX9 hown hK hP 0 rfl rfl 11 (by decide) (hts _ k12) (fun _ h9 => h9) rfl dX9_copyFrom_115 ?_
  refine lv_iconst (v := 0) hx hb dX9_copyFrom_118 (by decide) ?_
  refine lv_bipush (v := 8) hx hb dX9_copyFrom_119 (by decide) ?_
  refine va_copyi (D := g.1) (ty := .int) hx hb (by rw [hml]; exact hl.1.symm) hown (hts _ k35) (hts _ k36) (hts _ k37) (hts _ k38) hK hP hD hS 16 4 0 0 rfl rfl rfl rfl rfl (by decide) (by decide) (by decide) (by decide) (by decide) (fun _ _ => rfl) (Nat.le_of_ble_eq_true rfl) (by decide) dX9_copyFrom_121 (fun H locs hP hD hS => ?_)
  have hP : va_P g.1 vwCl (List.flatten [[(o, .inr (7, [.int pe2, .int wo2, .int tx2, .int ch2, .int jo2, .int tr2, .int dy2, .int sd2, .ref (a 0), .ref (a 1), .ref (a 2), .ref (a 3), .ref (a 4), .ref (a 5), .ref (a 6), .ref (a 7), .ref (a 8), .ref (a 9), .ref (a 10)])), (a 0, .inl (g.2 0, 8, .inl (va_cpy (f2 0) (f 0) 0 0 8))), (a 1, .inl (g.2 0, 8, .inl (va_cpy (f2 1) (f 1) 0 0 8))), (a 2, .inl (g.2 0, 8, .inl (va_cpy (f2 2) (f 2) 0 0 8))), (a 3, .inl (g.2 0, 8, .inl (va_cpy (f2 3) (f 3) 0 0 8))), (a 4, .inl (g.2 1, 8, .inl (f 4))), (a 5, .inl (g.2 0, 64, .inl (f 5))), (a 6, .inl (g.2 0, 6, .inl (f 6))), (a 7, .inl (g.2 0, 6, .inl (f 7))), (a 8, .inl (g.2 0, 6, .inl (f 8))), (a 9, .inl (g.2 0, 6, .inl (f 9))), (a 10, .inl (g.2 0, 8, .inl (f 10)))], bTown g o2 a2 pe2 wo2 tx2 ch2 jo2 tr2 dy2 sd2 f2]) H := hP
  have hD : va_D A (List.flatten [[(o, .inr (7, [.int pe2, .int wo2, .int tx2, .int ch2, .int jo2, .int tr2, .int dy2, .int sd2, .ref (a 0), .ref (a 1), .ref (a 2), .ref (a 3), .ref (a 4), .ref (a 5), .ref (a 6), .ref (a 7), .ref (a 8), .ref (a 9), .ref (a 10)])), (a 0, .inl (g.2 0, 8, .inl (va_cpy (f2 0) (f 0) 0 0 8))), (a 1, .inl (g.2 0, 8, .inl (va_cpy (f2 1) (f 1) 0 0 8))), (a 2, .inl (g.2 0, 8, .inl (va_cpy (f2 2) (f 2) 0 0 8))), (a 3, .inl (g.2 0, 8, .inl (va_cpy (f2 3) (f 3) 0 0 8))), (a 4, .inl (g.2 1, 8, .inl (f 4))), (a 5, .inl (g.2 0, 64, .inl (f 5))), (a 6, .inl (g.2 0, 6, .inl (f 6))), (a 7, .inl (g.2 0, 6, .inl (f 7))), (a 8, .inl (g.2 0, 6, .inl (f 8))), (a 9, .inl (g.2 0, 6, .inl (f 9))), (a 10, .inl (g.2 0, 8, .inl (f 10)))], bTown g o2 a2 pe2 wo2 tx2 ch2 jo2 tr2 dy2 sd2 f2]) := hD
  refine lv_aload_n hx hb dX9_copyFrom_124 rfl (lv_at hl 1 rfl) ?_
  refine va_get (D := g.1) (ci := 7) (v := .ref (a2 4)) (C := RX9) (T := TX9) (N := 19) hx hb hts izRX9 hown hK hP 12 rfl rfl 12 (by decide) (hts _ k14) (fun _ h9 => h9) rfl dX9_copyFrom_125 ?_
  refine lv_iconst (v := 0) hx hb dX9_copyFrom_128 (by decide) ?_
  refine lv_aload_n hx hb dX9_copyFrom_129 rfl (lv_at hl 0 rfl) ?_
  refine va_get (D := g.1) (ci := 7) (v := .ref (a 4)) (C := RX9) (T := TX9) (N := 19) hx hb hts izRX9 hown hK hP 0 rfl rfl 12 (by decide) (hts _ k14) (fun _ h9 => h9) rfl dX9_copyFrom_130 ?_
  refine lv_iconst (v := 0) hx hb dX9_copyFrom_133 (by decide) ?_
  refine lv_bipush (v := 8) hx hb dX9_copyFrom_134 (by decide) ?_
  refine va_copyi (D := g.1) (ty := .boolean) hx hb (by rw [hml]; exact hl.1.symm) hown (hts _ k35) (hts _ k36) (hts _ k37) (hts _ k38) hK hP hD hS 17 5 1 1 rfl rfl rfl rfl rfl (by decide) (by decide) (by decide) (by decide) (by decide) (zZs rf2) (Nat.le_of_ble_eq_true rfl) (by decide) dX9_copyFrom_136 (fun H locs hP hD hS => ?_)
  have hP : va_P g.1 vwCl (List.flatten [[(o, .inr (7, [.int pe2, .int wo2, .int tx2, .int ch2, .int jo2, .int tr2, .int dy2, .int sd2, .ref (a 0), .ref (a 1), .ref (a 2), .ref (a 3), .ref (a 4), .ref (a 5), .ref (a 6), .ref (a 7), .ref (a 8), .ref (a 9), .ref (a 10)])), (a 0, .inl (g.2 0, 8, .inl (va_cpy (f2 0) (f 0) 0 0 8))), (a 1, .inl (g.2 0, 8, .inl (va_cpy (f2 1) (f 1) 0 0 8))), (a 2, .inl (g.2 0, 8, .inl (va_cpy (f2 2) (f 2) 0 0 8))), (a 3, .inl (g.2 0, 8, .inl (va_cpy (f2 3) (f 3) 0 0 8))), (a 4, .inl (g.2 1, 8, .inl (va_cpy (f2 4) (f 4) 0 0 8))), (a 5, .inl (g.2 0, 64, .inl (f 5))), (a 6, .inl (g.2 0, 6, .inl (f 6))), (a 7, .inl (g.2 0, 6, .inl (f 7))), (a 8, .inl (g.2 0, 6, .inl (f 8))), (a 9, .inl (g.2 0, 6, .inl (f 9))), (a 10, .inl (g.2 0, 8, .inl (f 10)))], bTown g o2 a2 pe2 wo2 tx2 ch2 jo2 tr2 dy2 sd2 f2]) H := hP
  have hD : va_D A (List.flatten [[(o, .inr (7, [.int pe2, .int wo2, .int tx2, .int ch2, .int jo2, .int tr2, .int dy2, .int sd2, .ref (a 0), .ref (a 1), .ref (a 2), .ref (a 3), .ref (a 4), .ref (a 5), .ref (a 6), .ref (a 7), .ref (a 8), .ref (a 9), .ref (a 10)])), (a 0, .inl (g.2 0, 8, .inl (va_cpy (f2 0) (f 0) 0 0 8))), (a 1, .inl (g.2 0, 8, .inl (va_cpy (f2 1) (f 1) 0 0 8))), (a 2, .inl (g.2 0, 8, .inl (va_cpy (f2 2) (f 2) 0 0 8))), (a 3, .inl (g.2 0, 8, .inl (va_cpy (f2 3) (f 3) 0 0 8))), (a 4, .inl (g.2 1, 8, .inl (va_cpy (f2 4) (f 4) 0 0 8))), (a 5, .inl (g.2 0, 64, .inl (f 5))), (a 6, .inl (g.2 0, 6, .inl (f 6))), (a 7, .inl (g.2 0, 6, .inl (f 7))), (a 8, .inl (g.2 0, 6, .inl (f 8))), (a 9, .inl (g.2 0, 6, .inl (f 9))), (a 10, .inl (g.2 0, 8, .inl (f 10)))], bTown g o2 a2 pe2 wo2 tx2 ch2 jo2 tr2 dy2 sd2 f2]) := hD
  refine lv_aload_n hx hb dX9_copyFrom_139 rfl (lv_at hl 1 rfl) ?_
  refine va_get (D := g.1) (ci := 7) (v := .ref (a2 5)) (C := RX9) (T := TX9) (N := 19) hx hb hts izRX9 hown hK hP 12 rfl rfl 13 (by decide) (hts _ k15) (fun _ h9 => h9) rfl dX9_copyFrom_140 ?_
  refine lv_iconst (v := 0) hx hb dX9_copyFrom_143 (by decide) ?_
  refine lv_aload_n hx hb dX9_copyFrom_144 rfl (lv_at hl 0 rfl) ?_
  refine va_get (D := g.1) (ci := 7) (v := .ref (a 5)) (C := RX9) (T := TX9) (N := 19) hx hb hts izRX9 hown hK hP 0 rfl rfl 13 (by decide) (hts _ k15) (fun _ h9 => h9) rfl dX9_copyFrom_145 ?_
  refine lv_iconst (v := 0) hx hb dX9_copyFrom_148 (by decide) ?_
  refine lv_bipush (v := 64) hx hb dX9_copyFrom_149 (by decide) ?_
  refine va_copyi (D := g.1) (ty := .int) hx hb (by rw [hml]; exact hl.1.symm) hown (hts _ k35) (hts _ k36) (hts _ k37) (hts _ k38) hK hP hD hS 18 6 0 0 rfl rfl rfl rfl rfl (by decide) (by decide) (by decide) (by decide) (by decide) (fun _ _ => rfl) (Nat.le_of_ble_eq_true rfl) (by decide) dX9_copyFrom_151 (fun H locs hP hD hS => ?_)
  have hP : va_P g.1 vwCl (List.flatten [[(o, .inr (7, [.int pe2, .int wo2, .int tx2, .int ch2, .int jo2, .int tr2, .int dy2, .int sd2, .ref (a 0), .ref (a 1), .ref (a 2), .ref (a 3), .ref (a 4), .ref (a 5), .ref (a 6), .ref (a 7), .ref (a 8), .ref (a 9), .ref (a 10)])), (a 0, .inl (g.2 0, 8, .inl (va_cpy (f2 0) (f 0) 0 0 8))), (a 1, .inl (g.2 0, 8, .inl (va_cpy (f2 1) (f 1) 0 0 8))), (a 2, .inl (g.2 0, 8, .inl (va_cpy (f2 2) (f 2) 0 0 8))), (a 3, .inl (g.2 0, 8, .inl (va_cpy (f2 3) (f 3) 0 0 8))), (a 4, .inl (g.2 1, 8, .inl (va_cpy (f2 4) (f 4) 0 0 8))), (a 5, .inl (g.2 0, 64, .inl (va_cpy (f2 5) (f 5) 0 0 64))), (a 6, .inl (g.2 0, 6, .inl (f 6))), (a 7, .inl (g.2 0, 6, .inl (f 7))), (a 8, .inl (g.2 0, 6, .inl (f 8))), (a 9, .inl (g.2 0, 6, .inl (f 9))), (a 10, .inl (g.2 0, 8, .inl (f 10)))], bTown g o2 a2 pe2 wo2 tx2 ch2 jo2 tr2 dy2 sd2 f2]) H := hP
  have hD : va_D A (List.flatten [[(o, .inr (7, [.int pe2, .int wo2, .int tx2, .int ch2, .int jo2, .int tr2, .int dy2, .int sd2, .ref (a 0), .ref (a 1), .ref (a 2), .ref (a 3), .ref (a 4), .ref (a 5), .ref (a 6), .ref (a 7), .ref (a 8), .ref (a 9), .ref (a 10)])), (a 0, .inl (g.2 0, 8, .inl (va_cpy (f2 0) (f 0) 0 0 8))), (a 1, .inl (g.2 0, 8, .inl (va_cpy (f2 1) (f 1) 0 0 8))), (a 2, .inl (g.2 0, 8, .inl (va_cpy (f2 2) (f 2) 0 0 8))), (a 3, .inl (g.2 0, 8, .inl (va_cpy (f2 3) (f 3) 0 0 8))), (a 4, .inl (g.2 1, 8, .inl (va_cpy (f2 4) (f 4) 0 0 8))), (a 5, .inl (g.2 0, 64, .inl (va_cpy (f2 5) (f 5) 0 0 64))), (a 6, .inl (g.2 0, 6, .inl (f 6))), (a 7, .inl (g.2 0, 6, .inl (f 7))), (a 8, .inl (g.2 0, 6, .inl (f 8))), (a 9, .inl (g.2 0, 6, .inl (f 9))), (a 10, .inl (g.2 0, 8, .inl (f 10)))], bTown g o2 a2 pe2 wo2 tx2 ch2 jo2 tr2 dy2 sd2 f2]) := hD
  refine lv_aload_n hx hb dX9_copyFrom_154 rfl (lv_at hl 1 rfl) ?_
  refine va_get (D := g.1) (ci := 7) (v := .ref (a2 6)) (C := RX9) (T := TX9) (N := 19) hx hb hts izRX9 hown hK hP 12 rfl rfl 14 (by decide) (hts _ k16) (fun _ h9 => h9) rfl dX9_copyFrom_155 ?_
  refine lv_iconst (v := 0) hx hb dX9_copyFrom_158 (by decide) ?_
  refine lv_aload_n hx hb dX9_copyFrom_159 rfl (lv_at hl 0 rfl) ?_
  refine va_get (D := g.1) (ci := 7) (v := .ref (a 6)) (C := RX9) (T := TX9) (N := 19) hx hb hts izRX9 hown hK hP 0 rfl rfl 14 (by decide) (hts _ k16) (fun _ h9 => h9) rfl dX9_copyFrom_160 ?_
  refine lv_iconst (v := 0) hx hb dX9_copyFrom_163 (by decide) ?_
  refine lv_bipush (v := 6) hx hb dX9_copyFrom_164 (by decide) ?_
  refine va_copyi (D := g.1) (ty := .int) hx hb (by rw [hml]; exact hl.1.symm) hown (hts _ k35) (hts _ k36) (hts _ k37) (hts _ k38) hK hP hD hS 19 7 0 0 rfl rfl rfl rfl rfl (by decide) (by decide) (by decide) (by decide) (by decide) (fun _ _ => rfl) (Nat.le_of_ble_eq_true rfl) (by decide) dX9_copyFrom_166 (fun H locs hP hD hS => ?_)
  have hP : va_P g.1 vwCl (List.flatten [[(o, .inr (7, [.int pe2, .int wo2, .int tx2, .int ch2, .int jo2, .int tr2, .int dy2, .int sd2, .ref (a 0), .ref (a 1), .ref (a 2), .ref (a 3), .ref (a 4), .ref (a 5), .ref (a 6), .ref (a 7), .ref (a 8), .ref (a 9), .ref (a 10)])), (a 0, .inl (g.2 0, 8, .inl (va_cpy (f2 0) (f 0) 0 0 8))), (a 1, .inl (g.2 0, 8, .inl (va_cpy (f2 1) (f 1) 0 0 8))), (a 2, .inl (g.2 0, 8, .inl (va_cpy (f2 2) (f 2) 0 0 8))), (a 3, .inl (g.2 0, 8, .inl (va_cpy (f2 3) (f 3) 0 0 8))), (a 4, .inl (g.2 1, 8, .inl (va_cpy (f2 4) (f 4) 0 0 8))), (a 5, .inl (g.2 0, 64, .inl (va_cpy (f2 5) (f 5) 0 0 64))), (a 6, .inl (g.2 0, 6, .inl (va_cpy (f2 6) (f 6) 0 0 6))), (a 7, .inl (g.2 0, 6, .inl (f 7))), (a 8, .inl (g.2 0, 6, .inl (f 8))), (a 9, .inl (g.2 0, 6, .inl (f 9))), (a 10, .inl (g.2 0, 8, .inl (f 10)))], bTown g o2 a2 pe2 wo2 tx2 ch2 jo2 tr2 dy2 sd2 f2]) H := hP
  have hD : va_D A (List.flatten [[(o, .inr (7, [.int pe2, .int wo2, .int tx2, .int ch2, .int jo2, .int tr2, .int dy2, .int sd2, .ref (a 0), .ref (a 1), .ref (a 2), .ref (a 3), .ref (a 4), .ref (a 5), .ref (a 6), .ref (a 7), .ref (a 8), .ref (a 9), .ref (a 10)])), (a 0, .inl (g.2 0, 8, .inl (va_cpy (f2 0) (f 0) 0 0 8))), (a 1, .inl (g.2 0, 8, .inl (va_cpy (f2 1) (f 1) 0 0 8))), (a 2, .inl (g.2 0, 8, .inl (va_cpy (f2 2) (f 2) 0 0 8))), (a 3, .inl (g.2 0, 8, .inl (va_cpy (f2 3) (f 3) 0 0 8))), (a 4, .inl (g.2 1, 8, .inl (va_cpy (f2 4) (f 4) 0 0 8))), (a 5, .inl (g.2 0, 64, .inl (va_cpy (f2 5) (f 5) 0 0 64))), (a 6, .inl (g.2 0, 6, .inl (va_cpy (f2 6) (f 6) 0 0 6))), (a 7, .inl (g.2 0, 6, .inl (f 7))), (a 8, .inl (g.2 0, 6, .inl (f 8))), (a 9, .inl (g.2 0, 6, .inl (f 9))), (a 10, .inl (g.2 0, 8, .inl (f 10)))], bTown g o2 a2 pe2 wo2 tx2 ch2 jo2 tr2 dy2 sd2 f2]) := hD
  refine lv_aload_n hx hb dX9_copyFrom_169 rfl (lv_at hl 1 rfl) ?_
  refine va_get (D := g.1) (ci := 7) (v := .ref (a2 7)) (C := RX9) (T := TX9) (N := 19) hx hb hts izRX9 hown hK hP 12 rfl rfl 15 (by decide) (hts _ k17) (fun _ h9 => h9) rfl dX9_copyFrom_170 ?_
  refine lv_iconst (v := 0) hx hb dX9_copyFrom_173 (by decide) ?_
  refine lv_aload_n hx hb dX9_copyFrom_174 rfl (lv_at hl 0 rfl) ?_
  refine va_get (D := g.1) (ci := 7) (v := .ref (a 7)) (C := RX9) (T := TX9) (N := 19) hx hb hts izRX9 hown hK hP 0 rfl rfl 15 (by decide) (hts _ k17) (fun _ h9 => h9) rfl dX9_copyFrom_175 ?_
  refine lv_iconst (v := 0) hx hb dX9_copyFrom_178 (by decide) ?_
  refine lv_bipush (v := 6) hx hb dX9_copyFrom_179 (by decide) ?_
  refine va_copyi (D := g.1) (ty := .int) hx hb (by rw [hml]; exact hl.1.symm) hown (hts _ k35) (hts _ k36) (hts _ k37) (hts _ k38) hK hP hD hS 20 8 0 0 rfl rfl rfl rfl rfl (by decide) (by decide) (by decide) (by decide) (by decide) (fun _ _ => rfl) (Nat.le_of_ble_eq_true rfl) (by decide) dX9_copyFrom_181 (fun H locs hP hD hS => ?_)
  have hP : va_P g.1 vwCl (List.flatten [[(o, .inr (7, [.int pe2, .int wo2, .int tx2, .int ch2, .int jo2, .int tr2, .int dy2, .int sd2, .ref (a 0), .ref (a 1), .ref (a 2), .ref (a 3), .ref (a 4), .ref (a 5), .ref (a 6), .ref (a 7), .ref (a 8), .ref (a 9), .ref (a 10)])), (a 0, .inl (g.2 0, 8, .inl (va_cpy (f2 0) (f 0) 0 0 8))), (a 1, .inl (g.2 0, 8, .inl (va_cpy (f2 1) (f 1) 0 0 8))), (a 2, .inl (g.2 0, 8, .inl (va_cpy (f2 2) (f 2) 0 0 8))), (a 3, .inl (g.2 0, 8, .inl (va_cpy (f2 3) (f 3) 0 0 8))), (a 4, .inl (g.2 1, 8, .inl (va_cpy (f2 4) (f 4) 0 0 8))), (a 5, .inl (g.2 0, 64, .inl (va_cpy (f2 5) (f 5) 0 0 64))), (a 6, .inl (g.2 0, 6, .inl (va_cpy (f2 6) (f 6) 0 0 6))), (a 7, .inl (g.2 0, 6, .inl (va_cpy (f2 7) (f 7) 0 0 6))), (a 8, .inl (g.2 0, 6, .inl (f 8))), (a 9, .inl (g.2 0, 6, .inl (f 9))), (a 10, .inl (g.2 0, 8, .inl (f 10)))], bTown g o2 a2 pe2 wo2 tx2 ch2 jo2 tr2 dy2 sd2 f2]) H := hP
  have hD : va_D A (List.flatten [[(o, .inr (7, [.int pe2, .int wo2, .int tx2, .int ch2, .int jo2, .int tr2, .int dy2, .int sd2, .ref (a 0), .ref (a 1), .ref (a 2), .ref (a 3), .ref (a 4), .ref (a 5), .ref (a 6), .ref (a 7), .ref (a 8), .ref (a 9), .ref (a 10)])), (a 0, .inl (g.2 0, 8, .inl (va_cpy (f2 0) (f 0) 0 0 8))), (a 1, .inl (g.2 0, 8, .inl (va_cpy (f2 1) (f 1) 0 0 8))), (a 2, .inl (g.2 0, 8, .inl (va_cpy (f2 2) (f 2) 0 0 8))), (a 3, .inl (g.2 0, 8, .inl (va_cpy (f2 3) (f 3) 0 0 8))), (a 4, .inl (g.2 1, 8, .inl (va_cpy (f2 4) (f 4) 0 0 8))), (a 5, .inl (g.2 0, 64, .inl (va_cpy (f2 5) (f 5) 0 0 64))), (a 6, .inl (g.2 0, 6, .inl (va_cpy (f2 6) (f 6) 0 0 6))), (a 7, .inl (g.2 0, 6, .inl (va_cpy (f2 7) (f 7) 0 0 6))), (a 8, .inl (g.2 0, 6, .inl (f 8))), (a 9, .inl (g.2 0, 6, .inl (f 9))), (a 10, .inl (g.2 0, 8, .inl (f 10)))], bTown g o2 a2 pe2 wo2 tx2 ch2 jo2 tr2 dy2 sd2 f2]) := hD
  refine lv_aload_n hx hb dX9_copyFrom_184 rfl (lv_at hl 1 rfl) ?_
  refine va_get (D := g.1) (ci := 7) (v := .ref (a2 8)) (C := RX9) (T := TX9) (N := 19) hx hb hts izRX9 hown hK hP 12 rfl rfl 16 (by decide) (hts _ k18) (fun _ h9 => h9) rfl dX9_copyFrom_185 ?_
  refine lv_iconst (v := 0) hx hb dX9_copyFrom_188 (by decide) ?_
  refine lv_aload_n hx hb dX9_copyFrom_189 rfl (lv_at hl 0 rfl) ?_
  refine va_get (D := g.1) (ci := 7) (v := .ref (a 8)) (C := RX9) (T := TX9) (N := 19) hx hb hts izRX9 hown hK hP 0 rfl rfl 16 (by decide) (hts _ k18) (fun _ h9 => h9) rfl dX9_copyFrom_190 ?_
  refine lv_iconst (v := 0) hx hb dX9_copyFrom_193 (by decide) ?_
  refine lv_bipush (v := 6) hx hb dX9_copyFrom_194 (by decide) ?_
  refine va_copyi (D := g.1) (ty := .int) hx hb (by rw [hml]; exact hl.1.symm) hown (hts _ k35) (hts _ k36) (hts _ k37) (hts _ k38) hK hP hD hS 21 9 0 0 rfl rfl rfl rfl rfl (by decide) (by decide) (by decide) (by decide) (by decide) (fun _ _ => rfl) (Nat.le_of_ble_eq_true rfl) (by decide) dX9_copyFrom_196 (fun H locs hP hD hS => ?_)
  have hP : va_P g.1 vwCl (List.flatten [[(o, .inr (7, [.int pe2, .int wo2, .int tx2, .int ch2, .int jo2, .int tr2, .int dy2, .int sd2, .ref (a 0), .ref (a 1), .ref (a 2), .ref (a 3), .ref (a 4), .ref (a 5), .ref (a 6), .ref (a 7), .ref (a 8), .ref (a 9), .ref (a 10)])), (a 0, .inl (g.2 0, 8, .inl (va_cpy (f2 0) (f 0) 0 0 8))), (a 1, .inl (g.2 0, 8, .inl (va_cpy (f2 1) (f 1) 0 0 8))), (a 2, .inl (g.2 0, 8, .inl (va_cpy (f2 2) (f 2) 0 0 8))), (a 3, .inl (g.2 0, 8, .inl (va_cpy (f2 3) (f 3) 0 0 8))), (a 4, .inl (g.2 1, 8, .inl (va_cpy (f2 4) (f 4) 0 0 8))), (a 5, .inl (g.2 0, 64, .inl (va_cpy (f2 5) (f 5) 0 0 64))), (a 6, .inl (g.2 0, 6, .inl (va_cpy (f2 6) (f 6) 0 0 6))), (a 7, .inl (g.2 0, 6, .inl (va_cpy (f2 7) (f 7) 0 0 6))), (a 8, .inl (g.2 0, 6, .inl (va_cpy (f2 8) (f 8) 0 0 6))), (a 9, .inl (g.2 0, 6, .inl (f 9))), (a 10, .inl (g.2 0, 8, .inl (f 10)))], bTown g o2 a2 pe2 wo2 tx2 ch2 jo2 tr2 dy2 sd2 f2]) H := hP
  have hD : va_D A (List.flatten [[(o, .inr (7, [.int pe2, .int wo2, .int tx2, .int ch2, .int jo2, .int tr2, .int dy2, .int sd2, .ref (a 0), .ref (a 1), .ref (a 2), .ref (a 3), .ref (a 4), .ref (a 5), .ref (a 6), .ref (a 7), .ref (a 8), .ref (a 9), .ref (a 10)])), (a 0, .inl (g.2 0, 8, .inl (va_cpy (f2 0) (f 0) 0 0 8))), (a 1, .inl (g.2 0, 8, .inl (va_cpy (f2 1) (f 1) 0 0 8))), (a 2, .inl (g.2 0, 8, .inl (va_cpy (f2 2) (f 2) 0 0 8))), (a 3, .inl (g.2 0, 8, .inl (va_cpy (f2 3) (f 3) 0 0 8))), (a 4, .inl (g.2 1, 8, .inl (va_cpy (f2 4) (f 4) 0 0 8))), (a 5, .inl (g.2 0, 64, .inl (va_cpy (f2 5) (f 5) 0 0 64))), (a 6, .inl (g.2 0, 6, .inl (va_cpy (f2 6) (f 6) 0 0 6))), (a 7, .inl (g.2 0, 6, .inl (va_cpy (f2 7) (f 7) 0 0 6))), (a 8, .inl (g.2 0, 6, .inl (va_cpy (f2 8) (f 8) 0 0 6))), (a 9, .inl (g.2 0, 6, .inl (f 9))), (a 10, .inl (g.2 0, 8, .inl (f 10)))], bTown g o2 a2 pe2 wo2 tx2 ch2 jo2 tr2 dy2 sd2 f2]) := hD
  refine lv_aload_n hx hb dX9_copyFrom_199 rfl (lv_at hl 1 rfl) ?_
  refine va_get (D := g.1) (ci := 7) (v := .ref (a2 9)) (C := RX9) (T := TX9) (N := 19) hx hb hts izRX9 hown hK hP 12 rfl rfl 17 (by decide) (hts _ k19) (fun _ h9 => h9) rfl dX9_copyFrom_200 ?_
  refine lv_iconst (v := 0) hx hb dX9_copyFrom_203 (by decide) ?_
  refine lv_aload_n hx hb dX9_copyFrom_204 rfl (lv_at hl 0 rfl) ?_
  refine va_get (D := g.1) (ci := 7) (v := .ref (a 9)) (C := RX9) (T := TX9) (N := 19) hx hb hts izRX9 hown hK hP 0 rfl rfl 17 (by decide) (hts _ k19) (fun _ h9 => h9) rfl dX9_copyFrom_205 ?_
  refine lv_iconst (v := 0) hx hb dX9_copyFrom_208 (by decide) ?_
  refine lv_bipush (v := 6) hx hb dX9_copyFrom_209 (by decide) ?_
  refine va_copyi (D := g.1) (ty := .int) hx hb (by rw [hml]; exact hl.1.symm) hown (hts _ k35) (hts _ k36) (hts _ k37) (hts _ k38) hK hP hD hS 22 10 0 0 rfl rfl rfl rfl rfl (by decide) (by decide) (by decide) (by decide) (by decide) (fun _ _ => rfl) (Nat.le_of_ble_eq_true rfl) (by decide) dX9_copyFrom_211 (fun H locs hP hD hS => ?_)
  have hP : va_P g.1 vwCl (List.flatten [[(o, .inr (7, [.int pe2, .int wo2, .int tx2, .int ch2, .int jo2, .int tr2, .int dy2, .int sd2, .ref (a 0), .ref (a 1), .ref (a 2), .ref (a 3), .ref (a 4), .ref (a 5), .ref (a 6), .ref (a 7), .ref (a 8), .ref (a 9), .ref (a 10)])), (a 0, .inl (g.2 0, 8, .inl (va_cpy (f2 0) (f 0) 0 0 8))), (a 1, .inl (g.2 0, 8, .inl (va_cpy (f2 1) (f 1) 0 0 8))), (a 2, .inl (g.2 0, 8, .inl (va_cpy (f2 2) (f 2) 0 0 8))), (a 3, .inl (g.2 0, 8, .inl (va_cpy (f2 3) (f 3) 0 0 8))), (a 4, .inl (g.2 1, 8, .inl (va_cpy (f2 4) (f 4) 0 0 8))), (a 5, .inl (g.2 0, 64, .inl (va_cpy (f2 5) (f 5) 0 0 64))), (a 6, .inl (g.2 0, 6, .inl (va_cpy (f2 6) (f 6) 0 0 6))), (a 7, .inl (g.2 0, 6, .inl (va_cpy (f2 7) (f 7) 0 0 6))), (a 8, .inl (g.2 0, 6, .inl (va_cpy (f2 8) (f 8) 0 0 6))), (a 9, .inl (g.2 0, 6, .inl (va_cpy (f2 9) (f 9) 0 0 6))), (a 10, .inl (g.2 0, 8, .inl (f 10)))], bTown g o2 a2 pe2 wo2 tx2 ch2 jo2 tr2 dy2 sd2 f2]) H := hP
  have hD : va_D A (List.flatten [[(o, .inr (7, [.int pe2, .int wo2, .int tx2, .int ch2, .int jo2, .int tr2, .int dy2, .int sd2, .ref (a 0), .ref (a 1), .ref (a 2), .ref (a 3), .ref (a 4), .ref (a 5), .ref (a 6), .ref (a 7), .ref (a 8), .ref (a 9), .ref (a 10)])), (a 0, .inl (g.2 0, 8, .inl (va_cpy (f2 0) (f 0) 0 0 8))), (a 1, .inl (g.2 0, 8, .inl (va_cpy (f2 1) (f 1) 0 0 8))), (a 2, .inl (g.2 0, 8, .inl (va_cpy (f2 2) (f 2) 0 0 8))), (a 3, .inl (g.2 0, 8, .inl (va_cpy (f2 3) (f 3) 0 0 8))), (a 4, .inl (g.2 1, 8, .inl (va_cpy (f2 4) (f 4) 0 0 8))), (a 5, .inl (g.2 0, 64, .inl (va_cpy (f2 5) (f 5) 0 0 64))), (a 6, .inl (g.2 0, 6, .inl (va_cpy (f2 6) (f 6) 0 0 6))), (a 7, .inl (g.2 0, 6, .inl (va_cpy (f2 7) (f 7) 0 0 6))), (a 8, .inl (g.2 0, 6, .inl (va_cpy (f2 8) (f 8) 0 0 6))), (a 9, .inl (g.2 0, 6, .inl (va_cpy (f2 9) (f 9) 0 0 6))), (a 10, .inl (g.2 0, 8, .inl (f 10)))], bTown g o2 a2 pe2 wo2 tx2 ch2 jo2 tr2 dy2 sd2 f2]) := hD
  have hP : va_P g.1 vwCl (List.flatten [bTown g o a pe2 wo2 tx2 ch2 jo2 tr2 dy2 sd2 (zf [va_cpy (f2 0) (f 0) 0 0 8, va_cpy (f2 1) (f 1) 0 0 8, va_cpy (f2 2) (f 2) 0 0 8, va_cpy (f2 3) (f 3) 0 0 8, va_cpy (f2 4) (f 4) 0 0 8, va_cpy (f2 5) (f 5) 0 0 64, va_cpy (f2 6) (f 6) 0 0 6, va_cpy (f2 7) (f 7) 0 0 6, va_cpy (f2 8) (f 8) 0 0 6, va_cpy (f2 9) (f 9) 0 0 6, f 10]), bTown g o2 a2 pe2 wo2 tx2 ch2 jo2 tr2 dy2 sd2 f2]) H := hP
  have hD : va_D A (List.flatten [bTown g o a pe2 wo2 tx2 ch2 jo2 tr2 dy2 sd2 (zf [va_cpy (f2 0) (f 0) 0 0 8, va_cpy (f2 1) (f 1) 0 0 8, va_cpy (f2 2) (f 2) 0 0 8, va_cpy (f2 3) (f 3) 0 0 8, va_cpy (f2 4) (f 4) 0 0 8, va_cpy (f2 5) (f 5) 0 0 64, va_cpy (f2 6) (f 6) 0 0 6, va_cpy (f2 7) (f 7) 0 0 6, va_cpy (f2 8) (f 8) 0 0 6, va_cpy (f2 9) (f 9) 0 0 6, f 10]), bTown g o2 a2 pe2 wo2 tx2 ch2 jo2 tr2 dy2 sd2 f2]) := hD
  exact mret_v hx hb hr hlocks hS (Nat.le_of_ble_eq_true rfl) (Nat.le_of_ble_eq_true rfl) dX9_copyFrom_214 (zf [va_cpy (f2 0) (f 0) 0 0 8, va_cpy (f2 1) (f 1) 0 0 8, va_cpy (f2 2) (f 2) 0 0 8, va_cpy (f2 3) (f 3) 0 0 8, va_cpy (f2 4) (f 4) 0 0 8, va_cpy (f2 5) (f 5) 0 0 64, va_cpy (f2 6) (f 6) 0 0 6, va_cpy (f2 7) (f 7) 0 0 6, va_cpy (f2 8) (f 8) 0 0 6, va_cpy (f2 9) (f 9) 0 0 6, f 10]) rfl (show (zZ4 (zf [va_cpy (f2 0) (f 0) 0 0 8, va_cpy (f2 1) (f 1) 0 0 8, va_cpy (f2 2) (f 2) 0 0 8, va_cpy (f2 3) (f 3) 0 0 8, va_cpy (f2 4) (f 4) 0 0 8, va_cpy (f2 5) (f 5) 0 0 64, va_cpy (f2 6) (f 6) 0 0 6, va_cpy (f2 7) (f 7) 0 0 6, va_cpy (f2 8) (f 8) 0 0 6, va_cpy (f2 9) (f 9) 0 0 6, f 10])) from (zZc rf2)) hP hD
set_option maxRecDepth 100000 in
set_option maxHeartbeats 4000000 in
theorem c_draw (l : Launch) (g : zG) (o : Nat) (a : Nat → Nat) (pe : Int32) (wo : Int32) (tx : Int32) (ch : Int32) (jo : Int32) (tr : Int32) (dy : Int32) (sd : Int32) (f : Nat → Nat → Int32)  : zM' g l yX9_draw (Cond.code yX9_draw cX9_draw 1 (some .int) :: zB) ({ frames := 0, cells := 0, slots := 0, locals := 0 } : Room) [.ref o] [bTown g o a pe wo tx ch jo tr dy sd f] (fun u : Int32 × Int32 => (fun (sd2 : Int32) (q : Int32) => some (.int q)) (u.1) (u.2)) (fun u : Int32 × Int32 => (fun (sd2 : Int32) (q : Int32) => True) (u.1) (u.2)) (fun u : Int32 × Int32 => (fun (sd2 : Int32) (q : Int32) => [bTown g o a pe wo tx ch jo tr dy sd2 f]) (u.1) (u.2)) := by
  refine zM'.of (cc := cX9_draw) (maxL := 1) (rt := (some .int)) (by decide) rfl (Nat.le_of_ble_eq_true rfl) ?_
  intro p e s m args below meth c A ls St hr hlocks hin hK hT hA hP hD hS hl
  obtain ⟨hx, hb, hml, hown, hts⟩ := id St
  have hl : lv_has ls 1 [(0, .ref o)] := hl
  refine lv_aload_n hx hb dX9_draw_0 rfl (lv_at hl 0 rfl) ?_
  refine lv_ldc (v := 1103515245) hx hb hown (hts _ k130) dX9_draw_1 ?_
  refine lv_aload_n hx hb dX9_draw_3 rfl (lv_at hl 0 rfl) ?_
  refine va_get (D := g.1) (ci := 7) (v := .int sd) (C := RX9) (T := TX9) (N := 19) hx hb hts izRX9 hown hK hP 0 rfl rfl 7 (by decide) (hts _ k7) (fun _ h9 => h9) rfl dX9_draw_4 ?_
  refine lv_imul hx hb dX9_draw_7 ?_
  refine zg (fun x_1 => ?_)
  refine lv_sipush (v := 12345) hx hb dX9_draw_8 (by decide) ?_
  refine lv_iadd hx hb dX9_draw_11 ?_
  refine zg (fun x_2 => ?_)
  refine va_put (D := g.1) (ci := 7) (v := .int x_2) (ty := .int) (C := RX9) (T := TX9) (N := 19) hx hb hts izRX9 tyX9 tyX9_ok nmX9 hown hK hP hD hS 0 rfl rfl 7 (by decide) (hts _ k7) (fun _ h9 => h9) rfl (by decide +kernel) rfl rfl (Nat.le_of_ble_eq_true rfl) dX9_draw_12 (fun H locs hP hD hS => ?_)
  have hP : va_P g.1 vwCl (List.flatten [bTown g o a pe wo tx ch jo tr dy x_2 f]) H := hP
  have hD : va_D A (List.flatten [bTown g o a pe wo tx ch jo tr dy x_2 f]) := hD
  refine lv_aload_n hx hb dX9_draw_15 rfl (lv_at hl 0 rfl) ?_
  refine va_get (D := g.1) (ci := 7) (v := .int x_2) (C := RX9) (T := TX9) (N := 19) hx hb hts izRX9 hown hK hP 0 rfl rfl 7 (by decide) (hts _ k7) (fun _ h9 => h9) rfl dX9_draw_16 ?_
  refine lv_bipush (v := 16) hx hb dX9_draw_19 (by decide) ?_
  refine lv_ishr hx hb dX9_draw_21 ?_
  refine zg (fun x_3 => ?_)
  refine lv_sipush (v := 32767) hx hb dX9_draw_22 (by decide) ?_
  refine lv_iand hx hb dX9_draw_25 ?_
  refine zgb (zand32767 _) (fun x_4 hx_4 => ?_)
  have hP : va_P g.1 vwCl (List.flatten [bTown g o a pe wo tx ch jo tr dy x_2 f]) H := hP
  have hD : va_D A (List.flatten [bTown g o a pe wo tx ch jo tr dy x_2 f]) := hD
  exact mret_i hx hb hr hlocks hS (Nat.le_of_ble_eq_true rfl) (Nat.le_of_ble_eq_true rfl) dX9_draw_26 (x_2, x_4) rfl trivial hP hD
set_option maxRecDepth 100000 in
set_option maxHeartbeats 4000000 in
theorem c_spread (l : Launch) (g : zG) (o : Nat) (a : Nat → Nat) (pe : Int32) (wo : Int32) (tx : Int32) (ch : Int32) (jo : Int32) (tr : Int32) (dy : Int32) (sd : Int32) (f : Nat → Nat → Int32) (x1 : Int32) (wa : Int32) (b_pe : 0 ≤ pe.toInt ∧ pe.toInt ≤ 8) (b_wo : 0 ≤ wo.toInt ∧ wo.toInt ≤ 6) (rf : zZ4 f) (b_x1 : 0 ≤ x1.toInt ∧ x1.toInt ≤ 7) : zM' g l yX9_spread (Cond.code yX9_spread cX9_spread 4 none :: zB) ({ frames := 3, cells := 0, slots := 0, locals := 57 } : Room) [.ref o, .int x1, .int wa] [bTown g o a pe wo tx ch jo tr dy sd f] (fun (f2 : Nat → Nat → Int32) => none) (fun (f2 : Nat → Nat → Int32) => (zZ4 f2)) (fun (f2 : Nat → Nat → Int32) => [bTown g o a pe wo tx ch jo tr dy sd f2]) := by
  refine zM'.of (cc := cX9_spread) (maxL := 4) (rt := none) (by decide) rfl (Nat.le_of_ble_eq_true rfl) ?_
  intro p e s m args below meth c A ls St hr hlocks hin hK hT hA hP hD hS hl
  obtain ⟨hx, hb, hml, hown, hts⟩ := id St
  have hl : lv_has ls 4 [(0, .ref o), (1, .int x1), (2, .int wa)] := hl
  refine lv_iconst (v := 0) hx hb dX9_spread_0 (by decide) ?_
  refine lv_istore_n (lv' := [(3, .int 0), (0, .ref o), (1, .int x1), (2, .int wa)]) hx hb dX9_spread_1 rfl hl (by decide) rfl (fun ls hl => ?_)
  have hl := lv_sub (l' := [(0, .ref o), (1, .int x1), (2, .int wa), (3, .int 0)]) hl [1, 2, 3, 0] rfl
  have LP2_4 : ∀ (kf : Nat) (x_1 : Int32) (f_2 : Nat → Nat → Int32), (0 ≤ x_1.toInt ∧ x_1.toInt ≤ 8) → (zZ4 f_2) → ∀ (H : Heap) (locs : List Loc) (ls : Array Slot), ((9 - x_1.toInt).toNat) < kf → va_P g.1 vwCl (List.flatten [bTown g o a pe wo tx ch jo tr dy sd f_2]) H → va_D A (List.flatten [bTown g o a pe wo tx ch jo tr dy sd f_2]) → va_S A s.heap H locs → lv_has ls 4 [(0, .ref o), (1, .int x1), (2, .int wa), (3, .int x_1)] → W p l e ({ frames := 3, cells := 0, slots := 0, locals := 57 } : Room) s m args below meth c H locs (0) (0) (zF g (fun (f2 : Nat → Nat → Int32) => none) (fun (f2 : Nat → Nat → Int32) => (zZ4 f2)) (fun (f2 : Nat → Nat → Int32) => [bTown g o a pe wo tx ch jo tr dy sd f2]) ({ frames := 3, cells := 0, slots := 0, locals := 57 } : Room) below args s A) (F0 m 2 ls []) := by
    intro kf
    induction kf with
    | zero => intro x_1 f_2 i3 rf_2 H locs ls hk; exact absurd hk (Nat.not_lt_zero _)
    | succ kf ih2_5 =>
      intro x_1 f_2 i3 rf_2 H locs ls hk2_5 hP hD hS hl
      refine lv_iload_n hx hb dX9_spread_2 rfl (lv_at hl 3 rfl) ?_
      refine lv_aload_n hx hb dX9_spread_3 rfl (lv_at hl 0 rfl) ?_
      refine va_get (D := g.1) (ci := 7) (v := .int pe) (C := RX9) (T := TX9) (N := 19) hx hb hts izRX9 hown hK hP 0 rfl rfl 0 (by decide) (hts _ k31) (fun _ h9 => h9) rfl dX9_spread_4 ?_
      refine lv_icmp_ge (tgt := 54) hx hb dX9_spread_7 (by decide) (fun cb9 => ?_) (fun cb9 => ?_)
      · skip
        have c6 : pe.toInt ≤ x_1.toInt := zle cb9 rfl rfl
        refine lv_aload_n hx hb dX9_spread_54 rfl (lv_at hl 0 rfl) ?_
        refine va_get (D := g.1) (ci := 7) (v := .ref (a 0)) (C := RX9) (T := TX9) (N := 19) hx hb hts izRX9 hown hK hP 0 rfl rfl 8 (by decide) (hts _ k9) (fun _ h9 => h9) rfl dX9_spread_55 ?_
        refine lv_iload_n hx hb dX9_spread_58 rfl (lv_at hl 1 rfl) ?_
        refine lv_iload_n hx hb dX9_spread_59 rfl (lv_at hl 2 rfl) ?_
        refine lv_if_eq (tgt := 68) hx hb dX9_spread_60 (by decide) (fun cb9 => ?_) (fun cb9 => ?_)
        · skip
          have c7 : wa.toInt = 0 := zeq cb9 rfl (by decide)
          have n8 : 0 ≤ wa.toInt := Int.le_trans (Int.le_refl _) (Int.le_of_eq c7.symm)
          have n9 : wa.toInt ≤ 0 := Int.le_trans (Int.le_of_eq c7) (Int.le_refl _)
          refine lv_iconst (v := 0) hx hb dX9_spread_68 (by decide) ?_
          refine va_iast hx hb hK hP hD hS 1 0 rfl rfl (zinK (a := 0) (b := 7) b_x1.1 b_x1.2 (by decide)) dX9_spread_69 (fun H locs hP hD hS => ?_)
          obtain ⟨f10, rf10, hP, hD⟩ : ∃ f10 : Nat → Nat → Int32, zZ4 f10 ∧ va_P g.1 vwCl (List.flatten [bTown g o a pe wo tx ch jo tr dy sd f10]) H ∧ va_D A (List.flatten [bTown g o a pe wo tx ch jo tr dy sd f10]) := ⟨zu f_2 0 (upd (f_2 0) x1.toNatClampNeg 0), (zZ4_u rf_2 (by decide)), hP, hD⟩
          have hP : va_P g.1 vwCl (List.flatten [bTown g o a pe wo tx ch jo tr dy sd f10]) H := hP
          have hD : va_D A (List.flatten [bTown g o a pe wo tx ch jo tr dy sd f10]) := hD
          exact mret_v hx hb hr hlocks hS (Nat.le_of_ble_eq_true rfl) (Nat.le_of_ble_eq_true rfl) dX9_spread_70 (f10) rfl (show (zZ4 f10) from rf10) hP hD
        · skip
          have c11 : ¬ wa.toInt = 0 := zne cb9 rfl (by decide)
          refine lv_bipush (v := 99) hx hb dX9_spread_63 (by decide) ?_
          refine lv_goto (tgt := 69) hx hb dX9_spread_65 (by decide) ?_
          refine va_iast hx hb hK hP hD hS 1 0 rfl rfl (zinK (a := 0) (b := 7) b_x1.1 b_x1.2 (by decide)) dX9_spread_69 (fun H locs hP hD hS => ?_)
          obtain ⟨f12, rf12, hP, hD⟩ : ∃ f12 : Nat → Nat → Int32, zZ4 f12 ∧ va_P g.1 vwCl (List.flatten [bTown g o a pe wo tx ch jo tr dy sd f12]) H ∧ va_D A (List.flatten [bTown g o a pe wo tx ch jo tr dy sd f12]) := ⟨zu f_2 0 (upd (f_2 0) x1.toNatClampNeg 99), (zZ4_u rf_2 (by decide)), hP, hD⟩
          have hP : va_P g.1 vwCl (List.flatten [bTown g o a pe wo tx ch jo tr dy sd f12]) H := hP
          have hD : va_D A (List.flatten [bTown g o a pe wo tx ch jo tr dy sd f12]) := hD
          exact mret_v hx hb hr hlocks hS (Nat.le_of_ble_eq_true rfl) (Nat.le_of_ble_eq_true rfl) dX9_spread_70 (f12) rfl (show (zZ4 f12) from rf12) hP hD
      · skip
        have c13 : x_1.toInt < pe.toInt := zlti (Int32.not_le.mp cb9) rfl rfl
        have n14 : x_1.toInt ≤ 7 := zL1 (b := 8) c13 b_pe.2 (by decide)
        have n15 : 1 ≤ pe.toInt := zL2 (a := 0) c13 i3.1 (by decide)
        refine lv_iload_n hx hb dX9_spread_10 rfl (lv_at hl 3 rfl) ?_
        refine lv_iload_n hx hb dX9_spread_11 rfl (lv_at hl 1 rfl) ?_
        refine lv_icmp_eq (tgt := 48) hx hb dX9_spread_12 (by decide) (fun cb9 => ?_) (fun cb9 => ?_)
        · skip
          have c16 : x_1.toInt = x1.toInt := zeq cb9 rfl rfl
          refine ziinc3 (n' := 1) (a' := 1) (b' := 8) (lv' := fun v9 => [(3, .int v9), (0, .ref o), (1, .int x1), (2, .int wa)]) hx hb dX9_spread_48 hl (k := 3) rfl (by decide) (fun _ => rfl) (zaddK (i := x_1.toInt) (j := 1) rfl (by decide) i3.1 n14 (Int.le_refl _) (Int.le_refl _) (by decide)) (fun x_17 ls hx_17 hl => ?_)
          refine lv_goto (tgt := 2) hx hb dX9_spread_51 (by decide) ?_
          have hl := lv_sub (l' := [(0, .ref o), (1, .int x1), (2, .int wa), (3, .int x_17)]) hl [1, 2, 3, 0] rfl
          have hP : va_P g.1 vwCl (List.flatten [bTown g o a pe wo tx ch jo tr dy sd f_2]) H := hP
          have hD : va_D A (List.flatten [bTown g o a pe wo tx ch jo tr dy sd f_2]) := hD
          exact ih2_5 x_17 f_2 ⟨(Int.le_trans (by decide) hx_17.2.1), hx_17.2.2⟩ rf_2 H _ ls (zmK hx_17.1 (by decide) n14 (by decide) hk2_5)  hP hD hS (lv_sub hl [0, 1, 2, 3] rfl)
        · skip
          have c18 : ¬ x_1.toInt = x1.toInt := zne cb9 rfl rfl
          refine lv_aload_n hx hb dX9_spread_15 rfl (lv_at hl 0 rfl) ?_
          refine lv_iload_n hx hb dX9_spread_16 rfl (lv_at hl 3 rfl) ?_
          refine mcallV' (g := g) (q0 := 0) (ci := 7) (As := [.int x_1]) (rest := []) St hK hT hA hP hD hS hl.1 [0] [] rfl rfl rfl (c_isHere l g o a pe wo tx ch jo tr dy sd f_2 x_1 (⟨i3.1, n14⟩)) (cwV 1 hts (zgL (zl4 k53 k54 k55 k24) k51) rfl rfl rfl (by decide +kernel) ⟨Nat.le_of_ble_eq_true rfl, Nat.le_of_ble_eq_true rfl⟩) rfl rfl rfl rfl (Nat.le_of_ble_eq_true rfl) dX9_spread_17 ⟨(Nat.le_of_ble_eq_true rfl), (Nat.le_of_ble_eq_true rfl)⟩ (fun q_19 H locs hq20 hP hD hS => ?_)
          replace hq20 : (q_19 = 0 ∨ q_19 = 1) := hq20
          have hP : va_P g.1 vwCl (List.flatten [bTown g o a pe wo tx ch jo tr dy sd f_2]) H := hP
          have hD : va_D A (List.flatten [bTown g o a pe wo tx ch jo tr dy sd f_2]) := hD
          refine W.widen (k := 0) (n := 0) (Nat.le_of_ble_eq_true rfl) (Nat.le_of_ble_eq_true rfl) ?_
          refine W.eq (g2 := F0 m 20 ls [.int q_19]) rfl ?_
          rcases hq20 with rfl | rfl
          · skip
            refine lv_if_eq (tgt := 48) hx hb dX9_spread_20 (by decide) (fun _ => ?_) (fun c21 => absurd (by decide) c21)
            refine ziinc3 (n' := 1) (a' := 1) (b' := 8) (lv' := fun v9 => [(3, .int v9), (0, .ref o), (1, .int x1), (2, .int wa)]) hx hb dX9_spread_48 hl (k := 3) rfl (by decide) (fun _ => rfl) (zaddK (i := x_1.toInt) (j := 1) rfl (by decide) i3.1 n14 (Int.le_refl _) (Int.le_refl _) (by decide)) (fun x_22 ls hx_22 hl => ?_)
            refine lv_goto (tgt := 2) hx hb dX9_spread_51 (by decide) ?_
            have hl := lv_sub (l' := [(0, .ref o), (1, .int x1), (2, .int wa), (3, .int x_22)]) hl [1, 2, 3, 0] rfl
            have hP : va_P g.1 vwCl (List.flatten [bTown g o a pe wo tx ch jo tr dy sd f_2]) H := hP
            have hD : va_D A (List.flatten [bTown g o a pe wo tx ch jo tr dy sd f_2]) := hD
            exact ih2_5 x_22 f_2 ⟨(Int.le_trans (by decide) hx_22.2.1), hx_22.2.2⟩ rf_2 H _ ls (zmK hx_22.1 (by decide) n14 (by decide) hk2_5)  hP hD hS (lv_sub hl [0, 1, 2, 3] rfl)
          · skip
            refine lv_if_eq (tgt := 48) hx hb dX9_spread_20 (by decide) (fun c23 => absurd c23 (by decide)) (fun _ => ?_)
            refine lv_aload_n hx hb dX9_spread_23 rfl (lv_at hl 0 rfl) ?_
            refine lv_iload_n hx hb dX9_spread_24 rfl (lv_at hl 3 rfl) ?_
            refine lv_iload_n hx hb dX9_spread_25 rfl (lv_at hl 2 rfl) ?_
            refine lv_if_eq (tgt := 38) hx hb dX9_spread_26 (by decide) (fun cb9 => ?_) (fun cb9 => ?_)
            · skip
              have c24 : wa.toInt = 0 := zeq cb9 rfl (by decide)
              have n25 : 0 ≤ wa.toInt := Int.le_trans (Int.le_refl _) (Int.le_of_eq c24.symm)
              have n26 : wa.toInt ≤ 0 := Int.le_trans (Int.le_of_eq c24) (Int.le_refl _)
              refine lv_aload_n hx hb dX9_spread_38 rfl (lv_at hl 0 rfl) ?_
              refine lv_iload_n hx hb dX9_spread_39 rfl (lv_at hl 3 rfl) ?_
              refine lv_iload_n hx hb dX9_spread_40 rfl (lv_at hl 1 rfl) ?_
              refine mcallV' (g := g) (q0 := 0) (ci := 7) (As := [.int x_1, .int x1]) (rest := [.int x_1, .ref o]) St hK hT hA hP hD hS hl.1 [0] [] rfl rfl rfl (c_trustOf l g o a pe wo tx ch jo tr dy sd f_2 x_1 x1 (⟨i3.1, n14⟩) b_x1) (cwV 2 hts (zgL (zl4 k89 k90 k91 k24) k87) rfl rfl rfl (by decide +kernel) ⟨Nat.le_of_ble_eq_true rfl, Nat.le_of_ble_eq_true rfl⟩) rfl rfl rfl rfl (Nat.le_of_ble_eq_true rfl) dX9_spread_41 ⟨(Nat.le_of_ble_eq_true rfl), (Nat.le_of_ble_eq_true rfl)⟩ (fun q_27 H locs hq28 hP hD hS => ?_)
              have hP : va_P g.1 vwCl (List.flatten [bTown g o a pe wo tx ch jo tr dy sd f_2]) H := hP
              have hD : va_D A (List.flatten [bTown g o a pe wo tx ch jo tr dy sd f_2]) := hD
              refine W.widen (k := 0) (n := 0) (Nat.le_of_ble_eq_true rfl) (Nat.le_of_ble_eq_true rfl) ?_
              refine W.eq (g2 := F0 m 44 ls [.int q_27, .int x_1, .ref o]) rfl ?_
              refine lv_ineg hx hb dX9_spread_44 ?_
              refine zg (fun x_29 => ?_)
              refine mcallV' (g := g) (q0 := 0) (ci := 7) (As := [.int x_1, .int x_29]) (rest := []) St hK hT hA hP hD hS hl.1 [0] [] rfl rfl rfl (c_raise l g o a pe wo tx ch jo tr dy sd f_2 x_1 x_29 rf_2 (⟨i3.1, n14⟩)) (cwV 2 hts (zgL (zl4 k131 k132 k133 k24) k47) rfl rfl rfl (by decide +kernel) ⟨Nat.le_of_ble_eq_true rfl, Nat.le_of_ble_eq_true rfl⟩) rfl rfl rfl rfl (Nat.le_of_ble_eq_true rfl) dX9_spread_45 ⟨(Nat.le_of_ble_eq_true rfl), (Nat.le_of_ble_eq_true rfl)⟩ (fun f2_30 H locs hq31 hP hD hS => ?_)
              replace hq31 : (zZ4 f2_30) := hq31
              have hP : va_P g.1 vwCl (List.flatten [bTown g o a pe wo tx ch jo tr dy sd f2_30]) H := hP
              have hD : va_D A (List.flatten [bTown g o a pe wo tx ch jo tr dy sd f2_30]) := hD
              refine W.widen (k := 0) (n := 0) (Nat.le_of_ble_eq_true rfl) (Nat.le_of_ble_eq_true rfl) ?_
              refine W.eq (g2 := F0 m 48 ls []) rfl ?_
              have rf2_30 := hq31; clear hq31
              refine ziinc3 (n' := 1) (a' := 1) (b' := 8) (lv' := fun v9 => [(3, .int v9), (0, .ref o), (1, .int x1), (2, .int wa)]) hx hb dX9_spread_48 hl (k := 3) rfl (by decide) (fun _ => rfl) (zaddK (i := x_1.toInt) (j := 1) rfl (by decide) i3.1 n14 (Int.le_refl _) (Int.le_refl _) (by decide)) (fun x_32 ls hx_32 hl => ?_)
              refine lv_goto (tgt := 2) hx hb dX9_spread_51 (by decide) ?_
              have hl := lv_sub (l' := [(0, .ref o), (1, .int x1), (2, .int wa), (3, .int x_32)]) hl [1, 2, 3, 0] rfl
              have hP : va_P g.1 vwCl (List.flatten [bTown g o a pe wo tx ch jo tr dy sd f2_30]) H := hP
              have hD : va_D A (List.flatten [bTown g o a pe wo tx ch jo tr dy sd f2_30]) := hD
              exact ih2_5 x_32 f2_30 ⟨(Int.le_trans (by decide) hx_32.2.1), hx_32.2.2⟩ rf2_30 H _ ls (zmK hx_32.1 (by decide) n14 (by decide) hk2_5)  hP hD hS (lv_sub hl [0, 1, 2, 3] rfl)
            · skip
              have c33 : ¬ wa.toInt = 0 := zne cb9 rfl (by decide)
              refine lv_aload_n hx hb dX9_spread_29 rfl (lv_at hl 0 rfl) ?_
              refine lv_iload_n hx hb dX9_spread_30 rfl (lv_at hl 3 rfl) ?_
              refine lv_iload_n hx hb dX9_spread_31 rfl (lv_at hl 1 rfl) ?_
              refine mcallV' (g := g) (q0 := 0) (ci := 7) (As := [.int x_1, .int x1]) (rest := [.int x_1, .ref o]) St hK hT hA hP hD hS hl.1 [0] [] rfl rfl rfl (c_trustOf l g o a pe wo tx ch jo tr dy sd f_2 x_1 x1 (⟨i3.1, n14⟩) b_x1) (cwV 2 hts (zgL (zl4 k89 k90 k91 k24) k87) rfl rfl rfl (by decide +kernel) ⟨Nat.le_of_ble_eq_true rfl, Nat.le_of_ble_eq_true rfl⟩) rfl rfl rfl rfl (Nat.le_of_ble_eq_true rfl) dX9_spread_32 ⟨(Nat.le_of_ble_eq_true rfl), (Nat.le_of_ble_eq_true rfl)⟩ (fun q_34 H locs hq35 hP hD hS => ?_)
              have hP : va_P g.1 vwCl (List.flatten [bTown g o a pe wo tx ch jo tr dy sd f_2]) H := hP
              have hD : va_D A (List.flatten [bTown g o a pe wo tx ch jo tr dy sd f_2]) := hD
              refine W.widen (k := 0) (n := 0) (Nat.le_of_ble_eq_true rfl) (Nat.le_of_ble_eq_true rfl) ?_
              refine W.eq (g2 := F0 m 35 ls [.int q_34, .int x_1, .ref o]) rfl ?_
              refine lv_goto (tgt := 45) hx hb dX9_spread_35 (by decide) ?_
              refine mcallV' (g := g) (q0 := 0) (ci := 7) (As := [.int x_1, .int q_34]) (rest := []) St hK hT hA hP hD hS hl.1 [0] [] rfl rfl rfl (c_raise l g o a pe wo tx ch jo tr dy sd f_2 x_1 q_34 rf_2 (⟨i3.1, n14⟩)) (cwV 2 hts (zgL (zl4 k131 k132 k133 k24) k47) rfl rfl rfl (by decide +kernel) ⟨Nat.le_of_ble_eq_true rfl, Nat.le_of_ble_eq_true rfl⟩) rfl rfl rfl rfl (Nat.le_of_ble_eq_true rfl) dX9_spread_45 ⟨(Nat.le_of_ble_eq_true rfl), (Nat.le_of_ble_eq_true rfl)⟩ (fun f2_36 H locs hq37 hP hD hS => ?_)
              replace hq37 : (zZ4 f2_36) := hq37
              have hP : va_P g.1 vwCl (List.flatten [bTown g o a pe wo tx ch jo tr dy sd f2_36]) H := hP
              have hD : va_D A (List.flatten [bTown g o a pe wo tx ch jo tr dy sd f2_36]) := hD
              refine W.widen (k := 0) (n := 0) (Nat.le_of_ble_eq_true rfl) (Nat.le_of_ble_eq_true rfl) ?_
              refine W.eq (g2 := F0 m 48 ls []) rfl ?_
              have rf2_36 := hq37; clear hq37
              refine ziinc3 (n' := 1) (a' := 1) (b' := 8) (lv' := fun v9 => [(3, .int v9), (0, .ref o), (1, .int x1), (2, .int wa)]) hx hb dX9_spread_48 hl (k := 3) rfl (by decide) (fun _ => rfl) (zaddK (i := x_1.toInt) (j := 1) rfl (by decide) i3.1 n14 (Int.le_refl _) (Int.le_refl _) (by decide)) (fun x_38 ls hx_38 hl => ?_)
              refine lv_goto (tgt := 2) hx hb dX9_spread_51 (by decide) ?_
              have hl := lv_sub (l' := [(0, .ref o), (1, .int x1), (2, .int wa), (3, .int x_38)]) hl [1, 2, 3, 0] rfl
              have hP : va_P g.1 vwCl (List.flatten [bTown g o a pe wo tx ch jo tr dy sd f2_36]) H := hP
              have hD : va_D A (List.flatten [bTown g o a pe wo tx ch jo tr dy sd f2_36]) := hD
              exact ih2_5 x_38 f2_36 ⟨(Int.le_trans (by decide) hx_38.2.1), hx_38.2.2⟩ rf2_36 H _ ls (zmK hx_38.1 (by decide) n14 (by decide) hk2_5)  hP hD hS (lv_sub hl [0, 1, 2, 3] rfl)
  have hP : va_P g.1 vwCl (List.flatten [bTown g o a pe wo tx ch jo tr dy sd f]) s.heap := hP
  have hD : va_D A (List.flatten [bTown g o a pe wo tx ch jo tr dy sd f]) := hD
  exact LP2_4 _ 0 f (by decide) rf s.heap _ ls (Nat.lt_succ_self _)  hP hD hS (lv_sub hl [0, 1, 2, 3] rfl)
set_option maxRecDepth 100000 in
set_option maxHeartbeats 4000000 in
theorem c_showTo (l : Launch) (g : zG) (o : Nat) (a : Nat → Nat) (pe : Int32) (wo : Int32) (tx : Int32) (ch : Int32) (jo : Int32) (tr : Int32) (dy : Int32) (sd : Int32) (f : Nat → Nat → Int32) (lo : Nat) (lc : Nat) (lz : Int32) (ll : Int32) (lm : Int32) (lg : Int32) (ld : Int32) (fc : Nat → Int32) (b_pe : 0 ≤ pe.toInt ∧ pe.toInt ≤ 8) (b_wo : 0 ≤ wo.toInt ∧ wo.toInt ≤ 6) (rf : zZ4 f) : zM' g l yX9_showTo (Cond.code yX9_showTo cX9_showTo 2 none :: zB) ({ frames := 3, cells := 0, slots := 0, locals := 64 } : Room) [.ref o, .ref lo] [bTown g o a pe wo tx ch jo tr dy sd f, bLaw g lo lc lz ll lm lg ld fc] (fun u : Int32 × Int32 × Int32 => (fun (lm2 : Int32) (lg2 : Int32) (ld2 : Int32) => none) (u.1) (u.2.1) (u.2.2)) (fun u : Int32 × Int32 × Int32 => (fun (lm2 : Int32) (lg2 : Int32) (ld2 : Int32) => True) (u.1) (u.2.1) (u.2.2)) (fun u : Int32 × Int32 × Int32 => (fun (lm2 : Int32) (lg2 : Int32) (ld2 : Int32) => [bTown g o a pe wo tx ch jo tr dy sd f, bLaw g lo lc lz ll lm2 lg2 ld2 fc]) (u.1) (u.2.1) (u.2.2)) := by
  refine zM'.of (cc := cX9_showTo) (maxL := 2) (rt := none) (by decide) rfl (Nat.le_of_ble_eq_true rfl) ?_
  intro p e s m args below meth c A ls St hr hlocks hin hK hT hA hP hD hS hl
  obtain ⟨hx, hb, hml, hown, hts⟩ := id St
  have hl : lv_has ls 2 [(0, .ref o), (1, .ref lo)] := hl
  refine lv_aload_n hx hb dX9_showTo_0 rfl (lv_at hl 1 rfl) ?_
  refine lv_aload_n hx hb dX9_showTo_1 rfl (lv_at hl 0 rfl) ?_
  refine mcallV' (g := g) (q0 := 0) (ci := 7) (As := []) (rest := [.ref lo]) St hK hT hA hP hD hS hl.1 [0] [1] rfl rfl rfl (c_meanBelief l g o a pe wo tx ch jo tr dy sd f b_pe b_wo rf) (cwV 0 hts (zgL (zl4 k76 k77 k78 k24) k61) rfl rfl rfl (by decide +kernel) ⟨Nat.le_of_ble_eq_true rfl, Nat.le_of_ble_eq_true rfl⟩) rfl rfl rfl rfl (Nat.le_of_ble_eq_true rfl) dX9_showTo_2 ⟨(Nat.le_of_ble_eq_true rfl), (Nat.le_of_ble_eq_true rfl)⟩ (fun q_1 H locs hq2 hP hD hS => ?_)
  have hP : va_P g.1 vwCl (List.flatten [bLaw g lo lc lz ll lm lg ld fc, bTown g o a pe wo tx ch jo tr dy sd f]) H := hP
  have hD : va_D A (List.flatten [bLaw g lo lc lz ll lm lg ld fc, bTown g o a pe wo tx ch jo tr dy sd f]) := hD
  refine W.widen (k := 0) (n := 0) (Nat.le_of_ble_eq_true rfl) (Nat.le_of_ble_eq_true rfl) ?_
  refine W.eq (g2 := F0 m 5 ls [.int q_1, .ref lo]) rfl ?_
  refine lv_aload_n hx hb dX9_showTo_5 rfl (lv_at hl 0 rfl) ?_
  refine lv_iconst (v := 1) hx hb dX9_showTo_6 (by decide) ?_
  refine mcallV' (g := g) (q0 := 0) (ci := 7) (As := [.int 1]) (rest := [.int q_1, .ref lo]) St hK hT hA hP hD hS hl.1 [1] [0] rfl rfl rfl (c_worksIn l g o a pe wo tx ch jo tr dy sd f 1 b_pe b_wo rf) (cwV 1 hts (zgL (zl4 k79 k80 k81 k24) k71) rfl rfl rfl (by decide +kernel) ⟨Nat.le_of_ble_eq_true rfl, Nat.le_of_ble_eq_true rfl⟩) rfl rfl rfl rfl (Nat.le_of_ble_eq_true rfl) dX9_showTo_7 ⟨(Nat.le_of_ble_eq_true rfl), (Nat.le_of_ble_eq_true rfl)⟩ (fun q_3 H locs hq4 hP hD hS => ?_)
  have hP : va_P g.1 vwCl (List.flatten [bLaw g lo lc lz ll lm lg ld fc, bTown g o a pe wo tx ch jo tr dy sd f]) H := hP
  have hD : va_D A (List.flatten [bLaw g lo lc lz ll lm lg ld fc, bTown g o a pe wo tx ch jo tr dy sd f]) := hD
  refine W.widen (k := 0) (n := 0) (Nat.le_of_ble_eq_true rfl) (Nat.le_of_ble_eq_true rfl) ?_
  refine W.eq (g2 := F0 m 10 ls [.int q_3, .int q_1, .ref lo]) rfl ?_
  refine mcallS' (g := g) (As := [.int q_3]) (rest := [.int q_1, .ref lo]) St hK hT hA hP hD hS hl.1 [] [0, 1] rfl rfl rfl (j_bitCount l g q_3 ) (va_cwS 1 hts (zgL (zl3 k65 k66 k67) k56) rfl rfl rfl (by decide +kernel) ⟨Nat.le_of_ble_eq_true rfl, Nat.le_of_ble_eq_true rfl⟩) rfl rfl (Nat.le_of_ble_eq_true rfl) dX9_showTo_10 ⟨(Nat.le_of_ble_eq_true rfl), (Nat.le_of_ble_eq_true rfl)⟩ (fun q_5 H locs hq6 hP hD hS => ?_)
  have hP : va_P g.1 vwCl (List.flatten [bLaw g lo lc lz ll lm lg ld fc, bTown g o a pe wo tx ch jo tr dy sd f]) H := hP
  have hD : va_D A (List.flatten [bLaw g lo lc lz ll lm lg ld fc, bTown g o a pe wo tx ch jo tr dy sd f]) := hD
  refine W.widen (k := 0) (n := 0) (Nat.le_of_ble_eq_true rfl) (Nat.le_of_ble_eq_true rfl) ?_
  refine W.eq (g2 := F0 m 13 ls [.int q_5, .int q_1, .ref lo]) rfl ?_
  refine lv_aload_n hx hb dX9_showTo_13 rfl (lv_at hl 0 rfl) ?_
  refine va_get (D := g.1) (ci := 7) (v := .int dy) (C := RX9) (T := TX9) (N := 19) hx hb hts izRX9 hown hK hP 2 rfl rfl 6 (by decide) (hts _ k34) (fun _ h9 => h9) rfl dX9_showTo_14 ?_
  refine mcallV' (g := g) (q0 := 0) (ci := 1) (As := [.int q_1, .int q_5, .int dy]) (rest := []) St hK hT hA hP hD hS hl.1 [0] [1] rfl rfl rfl (c_l_look l g lo lc lz ll lm lg ld fc q_1 q_5 dy ) (cwV 3 hts (zgL (zl4 k82 k83 k84 k85) k72) rfl rfl rfl (by decide +kernel) ⟨Nat.le_of_ble_eq_true rfl, Nat.le_of_ble_eq_true rfl⟩) rfl rfl rfl rfl (Nat.le_of_ble_eq_true rfl) dX9_showTo_17 ⟨(Nat.le_of_ble_eq_true rfl), (Nat.le_of_ble_eq_true rfl)⟩ (fun _u H locs hq7 hP hD hS => ?_)
  have hP : va_P g.1 vwCl (List.flatten [bTown g o a pe wo tx ch jo tr dy sd f, bLaw g lo lc lz ll q_1 q_5 dy fc]) H := hP
  have hD : va_D A (List.flatten [bTown g o a pe wo tx ch jo tr dy sd f, bLaw g lo lc lz ll q_1 q_5 dy fc]) := hD
  refine W.widen (k := 0) (n := 0) (Nat.le_of_ble_eq_true rfl) (Nat.le_of_ble_eq_true rfl) ?_
  refine W.eq (g2 := F0 m 20 ls []) rfl ?_
  have hP : va_P g.1 vwCl (List.flatten [bTown g o a pe wo tx ch jo tr dy sd f, bLaw g lo lc lz ll q_1 q_5 dy fc]) H := hP
  have hD : va_D A (List.flatten [bTown g o a pe wo tx ch jo tr dy sd f, bLaw g lo lc lz ll q_1 q_5 dy fc]) := hD
  exact mret_v hx hb hr hlocks hS (Nat.le_of_ble_eq_true rfl) (Nat.le_of_ble_eq_true rfl) dX9_showTo_20 (q_1, q_5, dy) rfl trivial hP hD
set_option maxRecDepth 100000 in
set_option maxHeartbeats 4000000 in
theorem c_turnsOf (l : Launch) (g : zG) (o : Nat) (a : Nat → Nat) (pe : Int32) (wo : Int32) (tx : Int32) (ch : Int32) (jo : Int32) (tr : Int32) (dy : Int32) (sd : Int32) (f : Nat → Nat → Int32) (lo : Nat) (lc : Nat) (lz : Int32) (ll : Int32) (lm : Int32) (lg : Int32) (ld : Int32) (fc : Nat → Int32) (x1 : Int32) (b_pe : 0 ≤ pe.toInt ∧ pe.toInt ≤ 8) (b_wo : 0 ≤ wo.toInt ∧ wo.toInt ≤ 6) (rf : zZ4 f) (b_lz : 0 ≤ lz.toInt ∧ lz.toInt ≤ 400) (b_x1 : 0 ≤ x1.toInt ∧ x1.toInt ≤ 7) : zM' g l yX9_turnsOf (Cond.code yX9_turnsOf cX9_turnsOf 3 (some .int) :: zB) ({ frames := 4, cells := 0, slots := 0, locals := 85 } : Room) [.ref o, .int x1, .ref lo] [bTown g o a pe wo tx ch jo tr dy sd f, bLaw g lo lc lz ll lm lg ld fc] (fun u : Int32 × Int32 × Int32 × Int32 => (fun (lm2 : Int32) (lg2 : Int32) (ld2 : Int32) (q : Int32) => some (.int q)) (u.1) (u.2.1) (u.2.2.1) (u.2.2.2)) (fun u : Int32 × Int32 × Int32 × Int32 => (fun (lm2 : Int32) (lg2 : Int32) (ld2 : Int32) (q : Int32) => True) (u.1) (u.2.1) (u.2.2.1) (u.2.2.2)) (fun u : Int32 × Int32 × Int32 × Int32 => (fun (lm2 : Int32) (lg2 : Int32) (ld2 : Int32) (q : Int32) => [bTown g o a pe wo tx ch jo tr dy sd f, bLaw g lo lc lz ll lm2 lg2 ld2 fc]) (u.1) (u.2.1) (u.2.2.1) (u.2.2.2)) := by
  refine zM'.of (cc := cX9_turnsOf) (maxL := 3) (rt := (some .int)) (by decide) rfl (Nat.le_of_ble_eq_true rfl) ?_
  intro p e s m args below meth c A ls St hr hlocks hin hK hT hA hP hD hS hl
  obtain ⟨hx, hb, hml, hown, hts⟩ := id St
  have hl : lv_has ls 3 [(0, .ref o), (1, .int x1), (2, .ref lo)] := hl
  refine lv_aload_n hx hb dX9_turnsOf_0 rfl (lv_at hl 0 rfl) ?_
  refine lv_aload_n hx hb dX9_turnsOf_1 rfl (lv_at hl 2 rfl) ?_
  refine mcallV' (g := g) (q0 := 0) (ci := 7) (As := [.ref lo]) (rest := []) St hK hT hA hP hD hS hl.1 [0, 1] [] rfl rfl rfl (c_showTo l g o a pe wo tx ch jo tr dy sd f lo lc lz ll lm lg ld fc b_pe b_wo rf) (cwV 1 hts (zgL (zl4 k142 k143 k144 k24) k86) rfl rfl rfl (by decide +kernel) ⟨Nat.le_of_ble_eq_true rfl, Nat.le_of_ble_eq_true rfl⟩) rfl rfl rfl rfl (Nat.le_of_ble_eq_true rfl) dX9_turnsOf_2 ⟨(Nat.le_of_ble_eq_true rfl), (Nat.le_of_ble_eq_true rfl)⟩ (fun u_ H locs hq4 hP hD hS => ?_)
  obtain ⟨lm2_1, lg2_2, ld2_3⟩ := u_
  have hP : va_P g.1 vwCl (List.flatten [bTown g o a pe wo tx ch jo tr dy sd f, bLaw g lo lc lz ll lm2_1 lg2_2 ld2_3 fc]) H := hP
  have hD : va_D A (List.flatten [bTown g o a pe wo tx ch jo tr dy sd f, bLaw g lo lc lz ll lm2_1 lg2_2 ld2_3 fc]) := hD
  refine W.widen (k := 0) (n := 0) (Nat.le_of_ble_eq_true rfl) (Nat.le_of_ble_eq_true rfl) ?_
  refine W.eq (g2 := F0 m 5 ls []) rfl ?_
  refine lv_aload_n hx hb dX9_turnsOf_5 rfl (lv_at hl 2 rfl) ?_
  refine lv_aload_n hx hb dX9_turnsOf_6 rfl (lv_at hl 0 rfl) ?_
  refine lv_iload_n hx hb dX9_turnsOf_7 rfl (lv_at hl 1 rfl) ?_
  refine mcallV' (g := g) (q0 := 0) (ci := 1) (As := [.ref o, .int x1]) (rest := []) St hK hT hA hP hD hS hl.1 [1, 0] [] rfl rfl rfl (c_l_turnsOf l g lo lc lz ll lm2_1 lg2_2 ld2_3 fc o a pe wo tx ch jo tr dy sd f x1 b_lz b_pe b_wo rf b_x1) (cwV 2 hts (zgL (zl4 k111 k112 k113 k85) k107) rfl rfl rfl (by decide +kernel) ⟨Nat.le_of_ble_eq_true rfl, Nat.le_of_ble_eq_true rfl⟩) rfl rfl rfl rfl (Nat.le_of_ble_eq_true rfl) dX9_turnsOf_8 ⟨(Nat.le_of_ble_eq_true rfl), (Nat.le_of_ble_eq_true rfl)⟩ (fun q_5 H locs hq6 hP hD hS => ?_)
  have hP : va_P g.1 vwCl (List.flatten [bLaw g lo lc lz ll lm2_1 lg2_2 ld2_3 fc, bTown g o a pe wo tx ch jo tr dy sd f]) H := hP
  have hD : va_D A (List.flatten [bLaw g lo lc lz ll lm2_1 lg2_2 ld2_3 fc, bTown g o a pe wo tx ch jo tr dy sd f]) := hD
  refine W.widen (k := 0) (n := 0) (Nat.le_of_ble_eq_true rfl) (Nat.le_of_ble_eq_true rfl) ?_
  refine W.eq (g2 := F0 m 11 ls [.int q_5]) rfl ?_
  have hP : va_P g.1 vwCl (List.flatten [bLaw g lo lc lz ll lm2_1 lg2_2 ld2_3 fc, bTown g o a pe wo tx ch jo tr dy sd f]) H := hP
  have hD : va_D A (List.flatten [bLaw g lo lc lz ll lm2_1 lg2_2 ld2_3 fc, bTown g o a pe wo tx ch jo tr dy sd f]) := hD
  obtain ⟨hP, hD⟩ := zord (g := g) (Bs' := [bTown g o a pe wo tx ch jo tr dy sd f, bLaw g lo lc lz ll lm2_1 lg2_2 ld2_3 fc]) [1, 0] rfl rfl hP hD
  exact mret_i hx hb hr hlocks hS (Nat.le_of_ble_eq_true rfl) (Nat.le_of_ble_eq_true rfl) dX9_turnsOf_11 (lm2_1, lg2_2, ld2_3, q_5) rfl trivial hP hD
set_option maxRecDepth 100000 in
set_option maxHeartbeats 4000000 in
theorem c_turnBeliefs (l : Launch) (g : zG) (o : Nat) (a : Nat → Nat) (pe : Int32) (wo : Int32) (tx : Int32) (ch : Int32) (jo : Int32) (tr : Int32) (dy : Int32) (sd : Int32) (f : Nat → Nat → Int32) (lo : Nat) (lc : Nat) (lz : Int32) (ll : Int32) (lm : Int32) (lg : Int32) (ld : Int32) (fc : Nat → Int32) (b_pe : 0 ≤ pe.toInt ∧ pe.toInt ≤ 8) (b_wo : 0 ≤ wo.toInt ∧ wo.toInt ≤ 6) (rf : zZ4 f) (b_lz : 0 ≤ lz.toInt ∧ lz.toInt ≤ 400) : zM' g l yX9_turnBeliefs (Cond.code yX9_turnBeliefs cX9_turnBeliefs 3 none :: zB) ({ frames := 3, cells := 0, slots := 0, locals := 75 } : Room) [.ref o, .ref lo] [bTown g o a pe wo tx ch jo tr dy sd f, bLaw g lo lc lz ll lm lg ld fc] (fun (f2 : Nat → Nat → Int32) => none) (fun (f2 : Nat → Nat → Int32) => (zZ4 f2)) (fun (f2 : Nat → Nat → Int32) => [bTown g o a pe wo tx ch jo tr dy sd f2, bLaw g lo lc lz ll lm lg ld fc]) := by
  refine zM'.of (cc := cX9_turnBeliefs) (maxL := 3) (rt := none) (by decide) rfl (Nat.le_of_ble_eq_true rfl) ?_
  intro p e s m args below meth c A ls St hr hlocks hin hK hT hA hP hD hS hl
  obtain ⟨hx, hb, hml, hown, hts⟩ := id St
  have hl : lv_has ls 3 [(0, .ref o), (1, .ref lo)] := hl
  refine lv_iconst (v := 0) hx hb dX9_turnBeliefs_0 (by decide) ?_
  refine lv_istore_n (lv' := [(2, .int 0), (0, .ref o), (1, .ref lo)]) hx hb dX9_turnBeliefs_1 rfl hl (by decide) rfl (fun ls hl => ?_)
  have hl := lv_sub (l' := [(0, .ref o), (1, .ref lo), (2, .int 0)]) hl [1, 2, 0] rfl
  have LP2_4 : ∀ (kf : Nat) (x_1 : Int32) (f_2 : Nat → Nat → Int32), (0 ≤ x_1.toInt ∧ x_1.toInt ≤ 8) → (zZ4 f_2) → ∀ (H : Heap) (locs : List Loc) (ls : Array Slot), ((9 - x_1.toInt).toNat) < kf → va_P g.1 vwCl (List.flatten [bTown g o a pe wo tx ch jo tr dy sd f_2, bLaw g lo lc lz ll lm lg ld fc]) H → va_D A (List.flatten [bTown g o a pe wo tx ch jo tr dy sd f_2, bLaw g lo lc lz ll lm lg ld fc]) → va_S A s.heap H locs → lv_has ls 3 [(0, .ref o), (1, .ref lo), (2, .int x_1)] → W p l e ({ frames := 3, cells := 0, slots := 0, locals := 75 } : Room) s m args below meth c H locs (0) (0) (zF g (fun (f2 : Nat → Nat → Int32) => none) (fun (f2 : Nat → Nat → Int32) => (zZ4 f2)) (fun (f2 : Nat → Nat → Int32) => [bTown g o a pe wo tx ch jo tr dy sd f2, bLaw g lo lc lz ll lm lg ld fc]) ({ frames := 3, cells := 0, slots := 0, locals := 75 } : Room) below args s A) (F0 m 2 ls []) := by
    intro kf
    induction kf with
    | zero => intro x_1 f_2 i3 rf_2 H locs ls hk; exact absurd hk (Nat.not_lt_zero _)
    | succ kf ih2_5 =>
      intro x_1 f_2 i3 rf_2 H locs ls hk2_5 hP hD hS hl
      refine lv_iload_n hx hb dX9_turnBeliefs_2 rfl (lv_at hl 2 rfl) ?_
      refine lv_aload_n hx hb dX9_turnBeliefs_3 rfl (lv_at hl 0 rfl) ?_
      refine va_get (D := g.1) (ci := 7) (v := .int pe) (C := RX9) (T := TX9) (N := 19) hx hb hts izRX9 hown hK hP 0 rfl rfl 0 (by decide) (hts _ k31) (fun _ h9 => h9) rfl dX9_turnBeliefs_4 ?_
      refine lv_icmp_ge (tgt := 68) hx hb dX9_turnBeliefs_7 (by decide) (fun cb9 => ?_) (fun cb9 => ?_)
      · skip
        have c6 : pe.toInt ≤ x_1.toInt := zle cb9 rfl rfl
        refine lv_aload_n hx hb dX9_turnBeliefs_68 rfl (lv_at hl 0 rfl) ?_
        refine va_get (D := g.1) (ci := 7) (v := .ref (a 10)) (C := RX9) (T := TX9) (N := 19) hx hb hts izRX9 hown hK hP 0 rfl rfl 18 (by decide) (hts _ k20) (fun _ h9 => h9) rfl dX9_turnBeliefs_69 ?_
        refine lv_iconst (v := 0) hx hb dX9_turnBeliefs_72 (by decide) ?_
        refine lv_aload_n hx hb dX9_turnBeliefs_73 rfl (lv_at hl 0 rfl) ?_
        refine va_get (D := g.1) (ci := 7) (v := .ref (a 0)) (C := RX9) (T := TX9) (N := 19) hx hb hts izRX9 hown hK hP 0 rfl rfl 8 (by decide) (hts _ k9) (fun _ h9 => h9) rfl dX9_turnBeliefs_74 ?_
        refine lv_iconst (v := 0) hx hb dX9_turnBeliefs_77 (by decide) ?_
        refine lv_aload_n hx hb dX9_turnBeliefs_78 rfl (lv_at hl 0 rfl) ?_
        refine va_get (D := g.1) (ci := 7) (v := .int pe) (C := RX9) (T := TX9) (N := 19) hx hb hts izRX9 hown hK hP 0 rfl rfl 0 (by decide) (hts _ k31) (fun _ h9 => h9) rfl dX9_turnBeliefs_79 ?_
        refine va_copyi (D := g.1) (ty := .int) hx hb (by rw [hml]; exact hl.1.symm) hown (hts _ k35) (hts _ k36) (hts _ k37) (hts _ k38) hK hP hD hS 11 1 0 0 rfl rfl rfl rfl rfl (by decide) (by decide) (znn (by omega)) (by show 0 + pe.toNatClampNeg ≤ 8; rw [zcl]; omega) (by show 0 + pe.toNatClampNeg ≤ 8; rw [zcl]; omega) (fun _ _ => rfl) (Nat.le_of_ble_eq_true rfl) (by decide) dX9_turnBeliefs_82 (fun H locs hP hD hS => ?_)
        obtain ⟨f7, rf7, hP, hD⟩ : ∃ f7 : Nat → Nat → Int32, zZ4 f7 ∧ va_P g.1 vwCl (List.flatten [bTown g o a pe wo tx ch jo tr dy sd f7, bLaw g lo lc lz ll lm lg ld fc]) H ∧ va_D A (List.flatten [bTown g o a pe wo tx ch jo tr dy sd f7, bLaw g lo lc lz ll lm lg ld fc]) := ⟨zu f_2 0 (va_cpy (f_2 10) (f_2 0) 0 0 pe.toNatClampNeg), (zZ4_u rf_2 (by decide)), hP, hD⟩
        have hP : va_P g.1 vwCl (List.flatten [bTown g o a pe wo tx ch jo tr dy sd f7, bLaw g lo lc lz ll lm lg ld fc]) H := hP
        have hD : va_D A (List.flatten [bTown g o a pe wo tx ch jo tr dy sd f7, bLaw g lo lc lz ll lm lg ld fc]) := hD
        exact mret_v hx hb hr hlocks hS (Nat.le_of_ble_eq_true rfl) (Nat.le_of_ble_eq_true rfl) dX9_turnBeliefs_85 (f7) rfl (show (zZ4 f7) from rf7) hP hD
      · skip
        have c8 : x_1.toInt < pe.toInt := zlti (Int32.not_le.mp cb9) rfl rfl
        have n9 : x_1.toInt ≤ 7 := zL1 (b := 8) c8 b_pe.2 (by decide)
        have n10 : 1 ≤ pe.toInt := zL2 (a := 0) c8 i3.1 (by decide)
        refine lv_aload_n hx hb dX9_turnBeliefs_10 rfl (lv_at hl 0 rfl) ?_
        refine lv_iload_n hx hb dX9_turnBeliefs_11 rfl (lv_at hl 2 rfl) ?_
        refine mcallV' (g := g) (q0 := 0) (ci := 7) (As := [.int x_1]) (rest := []) St hK hT hA hP hD hS hl.1 [0] [1] rfl rfl rfl (c_isHere l g o a pe wo tx ch jo tr dy sd f_2 x_1 (⟨i3.1, n9⟩)) (cwV 1 hts (zgL (zl4 k53 k54 k55 k24) k51) rfl rfl rfl (by decide +kernel) ⟨Nat.le_of_ble_eq_true rfl, Nat.le_of_ble_eq_true rfl⟩) rfl rfl rfl rfl (Nat.le_of_ble_eq_true rfl) dX9_turnBeliefs_12 ⟨(Nat.le_of_ble_eq_true rfl), (Nat.le_of_ble_eq_true rfl)⟩ (fun q_11 H locs hq12 hP hD hS => ?_)
        replace hq12 : (q_11 = 0 ∨ q_11 = 1) := hq12
        have hP : va_P g.1 vwCl (List.flatten [bLaw g lo lc lz ll lm lg ld fc, bTown g o a pe wo tx ch jo tr dy sd f_2]) H := hP
        have hD : va_D A (List.flatten [bLaw g lo lc lz ll lm lg ld fc, bTown g o a pe wo tx ch jo tr dy sd f_2]) := hD
        refine W.widen (k := 0) (n := 0) (Nat.le_of_ble_eq_true rfl) (Nat.le_of_ble_eq_true rfl) ?_
        refine W.eq (g2 := F0 m 15 ls [.int q_11]) rfl ?_
        rcases hq12 with rfl | rfl
        · skip
          refine lv_if_eq (tgt := 50) hx hb dX9_turnBeliefs_15 (by decide) (fun _ => ?_) (fun c13 => absurd (by decide) c13)
          refine lv_aload_n hx hb dX9_turnBeliefs_50 rfl (lv_at hl 0 rfl) ?_
          refine va_get (D := g.1) (ci := 7) (v := .ref (a 10)) (C := RX9) (T := TX9) (N := 19) hx hb hts izRX9 hown hK hP 2 rfl rfl 18 (by decide) (hts _ k20) (fun _ h9 => h9) rfl dX9_turnBeliefs_51 ?_
          refine lv_iload_n hx hb dX9_turnBeliefs_54 rfl (lv_at hl 2 rfl) ?_
          refine lv_aload_n hx hb dX9_turnBeliefs_55 rfl (lv_at hl 0 rfl) ?_
          refine va_get (D := g.1) (ci := 7) (v := .ref (a 0)) (C := RX9) (T := TX9) (N := 19) hx hb hts izRX9 hown hK hP 2 rfl rfl 8 (by decide) (hts _ k9) (fun _ h9 => h9) rfl dX9_turnBeliefs_56 ?_
          refine lv_iload_n hx hb dX9_turnBeliefs_59 rfl (lv_at hl 2 rfl) ?_
          refine va_iald hx hb hK hP 3 0 rfl rfl (zinK (a := 0) (b := 7) i3.1 n9 (by decide)) dX9_turnBeliefs_60 ?_
          refine zg (fun x_14 => ?_)
          refine va_iast hx hb hK hP hD hS 13 0 rfl rfl (zinK (a := 0) (b := 7) i3.1 n9 (by decide)) dX9_turnBeliefs_61 (fun H locs hP hD hS => ?_)
          obtain ⟨f15, rf15, hP, hD⟩ : ∃ f15 : Nat → Nat → Int32, zZ4 f15 ∧ va_P g.1 vwCl (List.flatten [bLaw g lo lc lz ll lm lg ld fc, bTown g o a pe wo tx ch jo tr dy sd f15]) H ∧ va_D A (List.flatten [bLaw g lo lc lz ll lm lg ld fc, bTown g o a pe wo tx ch jo tr dy sd f15]) := ⟨zu f_2 10 (upd (f_2 10) x_1.toNatClampNeg x_14), (zZ4_u rf_2 (by decide)), hP, hD⟩
          refine ziinc3 (n' := 1) (a' := 1) (b' := 8) (lv' := fun v9 => [(2, .int v9), (0, .ref o), (1, .ref lo)]) hx hb dX9_turnBeliefs_62 hl (k := 2) rfl (by decide) (fun _ => rfl) (zaddK (i := x_1.toInt) (j := 1) rfl (by decide) i3.1 n9 (Int.le_refl _) (Int.le_refl _) (by decide)) (fun x_16 ls hx_16 hl => ?_)
          refine lv_goto (tgt := 2) hx hb dX9_turnBeliefs_65 (by decide) ?_
          have hl := lv_sub (l' := [(0, .ref o), (1, .ref lo), (2, .int x_16)]) hl [1, 2, 0] rfl
          have hP : va_P g.1 vwCl (List.flatten [bLaw g lo lc lz ll lm lg ld fc, bTown g o a pe wo tx ch jo tr dy sd f15]) H := hP
          have hD : va_D A (List.flatten [bLaw g lo lc lz ll lm lg ld fc, bTown g o a pe wo tx ch jo tr dy sd f15]) := hD
          obtain ⟨hP, hD⟩ := zord (g := g) (Bs' := [bTown g o a pe wo tx ch jo tr dy sd f15, bLaw g lo lc lz ll lm lg ld fc]) [1, 0] rfl rfl hP hD
          have hP : va_P g.1 vwCl (List.flatten [bTown g o a pe wo tx ch jo tr dy sd f15, bLaw g lo lc lz ll lm lg ld fc]) H := hP
          have hD : va_D A (List.flatten [bTown g o a pe wo tx ch jo tr dy sd f15, bLaw g lo lc lz ll lm lg ld fc]) := hD
          exact ih2_5 x_16 f15 ⟨(Int.le_trans (by decide) hx_16.2.1), hx_16.2.2⟩ rf15 H _ ls (zmK hx_16.1 (by decide) n9 (by decide) hk2_5)  hP hD hS (lv_sub hl [0, 1, 2] rfl)
        · skip
          refine lv_if_eq (tgt := 50) hx hb dX9_turnBeliefs_15 (by decide) (fun c17 => absurd c17 (by decide)) (fun _ => ?_)
          refine lv_aload_n hx hb dX9_turnBeliefs_18 rfl (lv_at hl 0 rfl) ?_
          refine va_get (D := g.1) (ci := 7) (v := .ref (a 10)) (C := RX9) (T := TX9) (N := 19) hx hb hts izRX9 hown hK hP 2 rfl rfl 18 (by decide) (hts _ k20) (fun _ h9 => h9) rfl dX9_turnBeliefs_19 ?_
          refine lv_iload_n hx hb dX9_turnBeliefs_22 rfl (lv_at hl 2 rfl) ?_
          refine lv_aload_n hx hb dX9_turnBeliefs_23 rfl (lv_at hl 0 rfl) ?_
          refine lv_aload_n hx hb dX9_turnBeliefs_24 rfl (lv_at hl 0 rfl) ?_
          refine va_get (D := g.1) (ci := 7) (v := .ref (a 0)) (C := RX9) (T := TX9) (N := 19) hx hb hts izRX9 hown hK hP 2 rfl rfl 8 (by decide) (hts _ k9) (fun _ h9 => h9) rfl dX9_turnBeliefs_25 ?_
          refine lv_iload_n hx hb dX9_turnBeliefs_28 rfl (lv_at hl 2 rfl) ?_
          refine va_iald hx hb hK hP 3 0 rfl rfl (zinK (a := 0) (b := 7) i3.1 n9 (by decide)) dX9_turnBeliefs_29 ?_
          refine zg (fun x_18 => ?_)
          refine lv_aload_n hx hb dX9_turnBeliefs_30 rfl (lv_at hl 0 rfl) ?_
          refine lv_iload_n hx hb dX9_turnBeliefs_31 rfl (lv_at hl 2 rfl) ?_
          refine mcallV' (g := g) (q0 := 0) (ci := 7) (As := [.int x_1]) (rest := [.int x_18, .ref o, .int x_1, .ref (a 10)]) St hK hT hA hP hD hS hl.1 [1] [0] rfl rfl rfl (c_pullOf l g o a pe wo tx ch jo tr dy sd f_2 x_1 b_pe b_wo rf_2 (⟨i3.1, n9⟩)) (cwV 1 hts (zgL (zl4 k108 k109 k110 k24) k88) rfl rfl rfl (by decide +kernel) ⟨Nat.le_of_ble_eq_true rfl, Nat.le_of_ble_eq_true rfl⟩) rfl rfl rfl rfl (Nat.le_of_ble_eq_true rfl) dX9_turnBeliefs_32 ⟨(Nat.le_of_ble_eq_true rfl), (Nat.le_of_ble_eq_true rfl)⟩ (fun q_19 H locs hq20 hP hD hS => ?_)
          have hP : va_P g.1 vwCl (List.flatten [bLaw g lo lc lz ll lm lg ld fc, bTown g o a pe wo tx ch jo tr dy sd f_2]) H := hP
          have hD : va_D A (List.flatten [bLaw g lo lc lz ll lm lg ld fc, bTown g o a pe wo tx ch jo tr dy sd f_2]) := hD
          refine W.widen (k := 0) (n := 0) (Nat.le_of_ble_eq_true rfl) (Nat.le_of_ble_eq_true rfl) ?_
          refine W.eq (g2 := F0 m 35 ls [.int q_19, .int x_18, .ref o, .int x_1, .ref (a 10)]) rfl ?_
          refine lv_iadd hx hb dX9_turnBeliefs_35 ?_
          refine zg (fun x_21 => ?_)
          refine lv_aload_n hx hb dX9_turnBeliefs_36 rfl (lv_at hl 1 rfl) ?_
          refine lv_aload_n hx hb dX9_turnBeliefs_37 rfl (lv_at hl 0 rfl) ?_
          refine lv_iload_n hx hb dX9_turnBeliefs_38 rfl (lv_at hl 2 rfl) ?_
          refine mcallV' (g := g) (q0 := 0) (ci := 1) (As := [.ref o, .int x_1]) (rest := [.int x_21, .ref o, .int x_1, .ref (a 10)]) St hK hT hA hP hD hS hl.1 [0, 1] [] rfl rfl rfl (c_l_turnsOf l g lo lc lz ll lm lg ld fc o a pe wo tx ch jo tr dy sd f_2 x_1 b_lz b_pe b_wo rf_2 (⟨i3.1, n9⟩)) (cwV 2 hts (zgL (zl4 k111 k112 k113 k85) k107) rfl rfl rfl (by decide +kernel) ⟨Nat.le_of_ble_eq_true rfl, Nat.le_of_ble_eq_true rfl⟩) rfl rfl rfl rfl (Nat.le_of_ble_eq_true rfl) dX9_turnBeliefs_39 ⟨(Nat.le_of_ble_eq_true rfl), (Nat.le_of_ble_eq_true rfl)⟩ (fun q_22 H locs hq23 hP hD hS => ?_)
          have hP : va_P g.1 vwCl (List.flatten [bLaw g lo lc lz ll lm lg ld fc, bTown g o a pe wo tx ch jo tr dy sd f_2]) H := hP
          have hD : va_D A (List.flatten [bLaw g lo lc lz ll lm lg ld fc, bTown g o a pe wo tx ch jo tr dy sd f_2]) := hD
          refine W.widen (k := 0) (n := 0) (Nat.le_of_ble_eq_true rfl) (Nat.le_of_ble_eq_true rfl) ?_
          refine W.eq (g2 := F0 m 42 ls [.int q_22, .int x_21, .ref o, .int x_1, .ref (a 10)]) rfl ?_
          refine lv_iadd hx hb dX9_turnBeliefs_42 ?_
          refine zg (fun x_24 => ?_)
          refine mcallV' (g := g) (q0 := 0) (ci := 7) (As := [.int x_24]) (rest := [.int x_1, .ref (a 10)]) St hK hT hA hP hD hS hl.1 [1] [0] rfl rfl rfl (c_within l g o a pe wo tx ch jo tr dy sd f_2 x_24 ) (cwV 1 hts (zgL (zl4 k48 k49 k50 k24) k39) rfl rfl rfl (by decide +kernel) ⟨Nat.le_of_ble_eq_true rfl, Nat.le_of_ble_eq_true rfl⟩) rfl rfl rfl rfl (Nat.le_of_ble_eq_true rfl) dX9_turnBeliefs_43 ⟨(Nat.le_of_ble_eq_true rfl), (Nat.le_of_ble_eq_true rfl)⟩ (fun q_25 H locs hq26 hP hD hS => ?_)
          have hP : va_P g.1 vwCl (List.flatten [bLaw g lo lc lz ll lm lg ld fc, bTown g o a pe wo tx ch jo tr dy sd f_2]) H := hP
          have hD : va_D A (List.flatten [bLaw g lo lc lz ll lm lg ld fc, bTown g o a pe wo tx ch jo tr dy sd f_2]) := hD
          refine W.widen (k := 0) (n := 0) (Nat.le_of_ble_eq_true rfl) (Nat.le_of_ble_eq_true rfl) ?_
          refine W.eq (g2 := F0 m 46 ls [.int q_25, .int x_1, .ref (a 10)]) rfl ?_
          refine va_iast hx hb hK hP hD hS 13 0 rfl rfl (zinK (a := 0) (b := 7) i3.1 n9 (by decide)) dX9_turnBeliefs_46 (fun H locs hP hD hS => ?_)
          obtain ⟨f27, rf27, hP, hD⟩ : ∃ f27 : Nat → Nat → Int32, zZ4 f27 ∧ va_P g.1 vwCl (List.flatten [bLaw g lo lc lz ll lm lg ld fc, bTown g o a pe wo tx ch jo tr dy sd f27]) H ∧ va_D A (List.flatten [bLaw g lo lc lz ll lm lg ld fc, bTown g o a pe wo tx ch jo tr dy sd f27]) := ⟨zu f_2 10 (upd (f_2 10) x_1.toNatClampNeg q_25), (zZ4_u rf_2 (by decide)), hP, hD⟩
          refine lv_goto (tgt := 62) hx hb dX9_turnBeliefs_47 (by decide) ?_
          refine ziinc3 (n' := 1) (a' := 1) (b' := 8) (lv' := fun v9 => [(2, .int v9), (0, .ref o), (1, .ref lo)]) hx hb dX9_turnBeliefs_62 hl (k := 2) rfl (by decide) (fun _ => rfl) (zaddK (i := x_1.toInt) (j := 1) rfl (by decide) i3.1 n9 (Int.le_refl _) (Int.le_refl _) (by decide)) (fun x_28 ls hx_28 hl => ?_)
          refine lv_goto (tgt := 2) hx hb dX9_turnBeliefs_65 (by decide) ?_
          have hl := lv_sub (l' := [(0, .ref o), (1, .ref lo), (2, .int x_28)]) hl [1, 2, 0] rfl
          have hP : va_P g.1 vwCl (List.flatten [bLaw g lo lc lz ll lm lg ld fc, bTown g o a pe wo tx ch jo tr dy sd f27]) H := hP
          have hD : va_D A (List.flatten [bLaw g lo lc lz ll lm lg ld fc, bTown g o a pe wo tx ch jo tr dy sd f27]) := hD
          obtain ⟨hP, hD⟩ := zord (g := g) (Bs' := [bTown g o a pe wo tx ch jo tr dy sd f27, bLaw g lo lc lz ll lm lg ld fc]) [1, 0] rfl rfl hP hD
          have hP : va_P g.1 vwCl (List.flatten [bTown g o a pe wo tx ch jo tr dy sd f27, bLaw g lo lc lz ll lm lg ld fc]) H := hP
          have hD : va_D A (List.flatten [bTown g o a pe wo tx ch jo tr dy sd f27, bLaw g lo lc lz ll lm lg ld fc]) := hD
          exact ih2_5 x_28 f27 ⟨(Int.le_trans (by decide) hx_28.2.1), hx_28.2.2⟩ rf27 H _ ls (zmK hx_28.1 (by decide) n9 (by decide) hk2_5)  hP hD hS (lv_sub hl [0, 1, 2] rfl)
  have hP : va_P g.1 vwCl (List.flatten [bTown g o a pe wo tx ch jo tr dy sd f, bLaw g lo lc lz ll lm lg ld fc]) s.heap := hP
  have hD : va_D A (List.flatten [bTown g o a pe wo tx ch jo tr dy sd f, bLaw g lo lc lz ll lm lg ld fc]) := hD
  exact LP2_4 _ 0 f (by decide) rf s.heap _ ls (Nat.lt_succ_self _)  hP hD hS (lv_sub hl [0, 1, 2] rfl)
set_option maxRecDepth 100000 in
set_option maxHeartbeats 4000000 in
theorem c_write (l : Launch) (g : zG) (o : Nat) (a : Nat → Nat) (pe : Int32) (wo : Int32) (tx : Int32) (ch : Int32) (jo : Int32) (tr : Int32) (dy : Int32) (sd : Int32) (f : Nat → Nat → Int32) (go : Nat) (gr : Nat) (gz : Int32) (gn : Int32) (fr : Nat → Int32) (wh : Int32) (kn : Int32) (b_pe : 0 ≤ pe.toInt ∧ pe.toInt ≤ 8) (b_wo : 0 ≤ wo.toInt ∧ wo.toInt ≤ 6) (rf : zZ4 f) (b_gz : 0 ≤ gz.toInt ∧ gz.toInt ≤ 60) (b_gn : 0 ≤ gn.toInt ∧ gn.toInt ≤ 59) : zM' g l yX9_write (Cond.code yX9_write cX9_write 4 none :: zB) ({ frames := 2, cells := 0, slots := 0, locals := 43 } : Room) [.ref o, .ref go, .int wh, .int kn] [bTown g o a pe wo tx ch jo tr dy sd f, bLog g go gr gz gn fr] (fun u : Int32 × Int32 × (Nat → Int32) => (fun (gz2 : Int32) (gn2 : Int32) (fr2 : Nat → Int32) => none) (u.1) (u.2.1) (u.2.2)) (fun u : Int32 × Int32 × (Nat → Int32) => (fun (gz2 : Int32) (gn2 : Int32) (fr2 : Nat → Int32) => (0 ≤ gz2.toInt ∧ gz2.toInt ≤ 60) ∧ (0 ≤ gn2.toInt ∧ gn2.toInt ≤ 59)) (u.1) (u.2.1) (u.2.2)) (fun u : Int32 × Int32 × (Nat → Int32) => (fun (gz2 : Int32) (gn2 : Int32) (fr2 : Nat → Int32) => [bTown g o a pe wo tx ch jo tr dy sd f, bLog g go gr gz2 gn2 fr2]) (u.1) (u.2.1) (u.2.2)) := by
  refine zM'.of (cc := cX9_write) (maxL := 4) (rt := none) (by decide) rfl (Nat.le_of_ble_eq_true rfl) ?_
  intro p e s m args below meth c A ls St hr hlocks hin hK hT hA hP hD hS hl
  obtain ⟨hx, hb, hml, hown, hts⟩ := id St
  have hl : lv_has ls 4 [(0, .ref o), (1, .ref go), (2, .int wh), (3, .int kn)] := hl
  refine lv_aload_n hx hb dX9_write_0 rfl (lv_at hl 1 rfl) ?_
  refine lv_ifnull hx hb dX9_write_1 ?_
  refine lv_aload_n hx hb dX9_write_4 rfl (lv_at hl 1 rfl) ?_
  refine lv_aload_n hx hb dX9_write_5 rfl (lv_at hl 0 rfl) ?_
  refine va_get (D := g.1) (ci := 7) (v := .int dy) (C := RX9) (T := TX9) (N := 19) hx hb hts izRX9 hown hK hP 0 rfl rfl 6 (by decide) (hts _ k34) (fun _ h9 => h9) rfl dX9_write_6 ?_
  refine lv_iload_n hx hb dX9_write_9 rfl (lv_at hl 2 rfl) ?_
  refine lv_iload_n hx hb dX9_write_10 rfl (lv_at hl 3 rfl) ?_
  refine lv_aload_n hx hb dX9_write_11 rfl (lv_at hl 0 rfl) ?_
  refine mcallV' (g := g) (q0 := 0) (ci := 7) (As := []) (rest := [.int kn, .int wh, .int dy, .ref go]) St hK hT hA hP hD hS hl.1 [0] [1] rfl rfl rfl (c_believed l g o a pe wo tx ch jo tr dy sd f b_pe b_wo rf) (cwV 0 hts (zgL (zl4 k68 k69 k70 k24) k60) rfl rfl rfl (by decide +kernel) ⟨Nat.le_of_ble_eq_true rfl, Nat.le_of_ble_eq_true rfl⟩) rfl rfl rfl rfl (Nat.le_of_ble_eq_true rfl) dX9_write_12 ⟨(Nat.le_of_ble_eq_true rfl), (Nat.le_of_ble_eq_true rfl)⟩ (fun q_1 H locs hq2 hP hD hS => ?_)
  have hP : va_P g.1 vwCl (List.flatten [bLog g go gr gz gn fr, bTown g o a pe wo tx ch jo tr dy sd f]) H := hP
  have hD : va_D A (List.flatten [bLog g go gr gz gn fr, bTown g o a pe wo tx ch jo tr dy sd f]) := hD
  refine W.widen (k := 0) (n := 0) (Nat.le_of_ble_eq_true rfl) (Nat.le_of_ble_eq_true rfl) ?_
  refine W.eq (g2 := F0 m 15 ls [.int q_1, .int kn, .int wh, .int dy, .ref go]) rfl ?_
  refine mcallV' (g := g) (q0 := 0) (ci := 3) (As := [.int dy, .int wh, .int kn, .int q_1]) (rest := []) St hK hT hA hP hD hS hl.1 [0] [1] rfl rfl rfl (c_g_add l g go gr gz gn fr dy wh kn q_1 b_gz b_gn) (cwV 4 hts (zgL (zl4 k120 k121 k122 k123) k115) rfl rfl rfl (by decide +kernel) ⟨Nat.le_of_ble_eq_true rfl, Nat.le_of_ble_eq_true rfl⟩) rfl rfl rfl rfl (Nat.le_of_ble_eq_true rfl) dX9_write_15 ⟨(Nat.le_of_ble_eq_true rfl), (Nat.le_of_ble_eq_true rfl)⟩ (fun u_ H locs hq6 hP hD hS => ?_)
  obtain ⟨gz3_3, gn3_4, fr3_5⟩ := u_
  replace hq6 : (0 ≤ gz3_3.toInt ∧ gz3_3.toInt ≤ 60) ∧ (0 ≤ gn3_4.toInt ∧ gn3_4.toInt ≤ 59) := hq6
  have hP : va_P g.1 vwCl (List.flatten [bTown g o a pe wo tx ch jo tr dy sd f, bLog g go gr gz3_3 gn3_4 fr3_5]) H := hP
  have hD : va_D A (List.flatten [bTown g o a pe wo tx ch jo tr dy sd f, bLog g go gr gz3_3 gn3_4 fr3_5]) := hD
  refine W.widen (k := 0) (n := 0) (Nat.le_of_ble_eq_true rfl) (Nat.le_of_ble_eq_true rfl) ?_
  refine W.eq (g2 := F0 m 18 ls []) rfl ?_
  obtain ⟨hq6_0, hq6_1⟩ := hq6
  have hP : va_P g.1 vwCl (List.flatten [bTown g o a pe wo tx ch jo tr dy sd f, bLog g go gr gz3_3 gn3_4 fr3_5]) H := hP
  have hD : va_D A (List.flatten [bTown g o a pe wo tx ch jo tr dy sd f, bLog g go gr gz3_3 gn3_4 fr3_5]) := hD
  exact mret_v hx hb hr hlocks hS (Nat.le_of_ble_eq_true rfl) (Nat.le_of_ble_eq_true rfl) dX9_write_18 (gz3_3, gn3_4, fr3_5) rfl (show (0 ≤ gz3_3.toInt ∧ gz3_3.toInt ≤ 60) ∧ (0 ≤ gn3_4.toInt ∧ gn3_4.toInt ≤ 59) from ⟨hq6_0, hq6_1⟩) hP hD
set_option maxRecDepth 100000 in
set_option maxHeartbeats 4000000 in
theorem c_writeN (l : Launch) (g : zG) (o : Nat) (a : Nat → Nat) (pe : Int32) (wo : Int32) (tx : Int32) (ch : Int32) (jo : Int32) (tr : Int32) (dy : Int32) (sd : Int32) (f : Nat → Nat → Int32) (wh : Int32) (kn : Int32) (b_pe : 0 ≤ pe.toInt ∧ pe.toInt ≤ 8) (b_wo : 0 ≤ wo.toInt ∧ wo.toInt ≤ 6) (rf : zZ4 f) : zM' g l yX9_write (Cond.code yX9_write cX9_write 4 none :: zB) ({ frames := 0, cells := 0, slots := 0, locals := 0 } : Room) [.ref o, .null, .int wh, .int kn] [bTown g o a pe wo tx ch jo tr dy sd f] (fun _ : Unit => none) (fun _ : Unit => True) (fun _ : Unit => [bTown g o a pe wo tx ch jo tr dy sd f]) := by
  refine zM'.of (cc := cX9_write) (maxL := 4) (rt := none) (by decide) rfl (Nat.le_of_ble_eq_true rfl) ?_
  intro p e s m args below meth c A ls St hr hlocks hin hK hT hA hP hD hS hl
  obtain ⟨hx, hb, hml, hown, hts⟩ := id St
  have hl : lv_has ls 4 [(0, .ref o), (1, .null), (2, .int wh), (3, .int kn)] := hl
  refine lv_aload_nN hx hb dX9_write_0 rfl (lv_at hl 1 rfl) ?_
  refine lv_ifnullN (tgt := 18) hx hb dX9_write_1 (by decide) ?_
  have hP : va_P g.1 vwCl (List.flatten [bTown g o a pe wo tx ch jo tr dy sd f]) s.heap := hP
  have hD : va_D A (List.flatten [bTown g o a pe wo tx ch jo tr dy sd f]) := hD
  exact mret_v hx hb hr hlocks hS (Nat.le_of_ble_eq_true rfl) (Nat.le_of_ble_eq_true rfl) dX9_write_18 () rfl trivial hP hD
set_option maxRecDepth 100000 in
set_option maxHeartbeats 4000000 in
theorem c_keepWorksN (l : Launch) (g : zG) (o : Nat) (a : Nat → Nat) (pe : Int32) (wo : Int32) (tx : Int32) (ch : Int32) (jo : Int32) (tr : Int32) (dy : Int32) (sd : Int32) (f : Nat → Nat → Int32) (b_pe : 0 ≤ pe.toInt ∧ pe.toInt ≤ 8) (b_wo : 0 ≤ wo.toInt ∧ wo.toInt ≤ 6) (rf : zZ4 f) : zM' g l yX9_keepWorks (Cond.code yX9_keepWorks cX9_keepWorks 5 (some .int) :: zB) ({ frames := 2, cells := 0, slots := 0, locals := 43 } : Room) [.ref o, .null] [bTown g o a pe wo tx ch jo tr dy sd f] (fun u : Int32 × (Nat → Nat → Int32) × Int32 => (fun (ch2 : Int32) (f2 : Nat → Nat → Int32) (q : Int32) => some (.int q)) (u.1) (u.2.1) (u.2.2)) (fun u : Int32 × (Nat → Nat → Int32) × Int32 => (fun (ch2 : Int32) (f2 : Nat → Nat → Int32) (q : Int32) => (zZ4 f2)) (u.1) (u.2.1) (u.2.2)) (fun u : Int32 × (Nat → Nat → Int32) × Int32 => (fun (ch2 : Int32) (f2 : Nat → Nat → Int32) (q : Int32) => [bTown g o a pe wo tx ch2 jo tr dy sd f2]) (u.1) (u.2.1) (u.2.2)) := by
  refine zM'.of (cc := cX9_keepWorks) (maxL := 5) (rt := (some .int)) (by decide) rfl (Nat.le_of_ble_eq_true rfl) ?_
  intro p e s m args below meth c A ls St hr hlocks hin hK hT hA hP hD hS hl
  obtain ⟨hx, hb, hml, hown, hts⟩ := id St
  have hl : lv_has ls 5 [(0, .ref o), (1, .null)] := hl
  refine lv_aload_n hx hb dX9_keepWorks_0 rfl (lv_at hl 0 rfl) ?_
  refine mcallV' (g := g) (q0 := 0) (ci := 7) (As := []) (rest := []) St hK hT hA hP hD hS hl.1 [0] [] rfl rfl rfl (c_believed l g o a pe wo tx ch jo tr dy sd f b_pe b_wo rf) (cwV 0 hts (zgL (zl4 k68 k69 k70 k24) k60) rfl rfl rfl (by decide +kernel) ⟨Nat.le_of_ble_eq_true rfl, Nat.le_of_ble_eq_true rfl⟩) rfl rfl rfl rfl (Nat.le_of_ble_eq_true rfl) dX9_keepWorks_1 ⟨(Nat.le_of_ble_eq_true rfl), (Nat.le_of_ble_eq_true rfl)⟩ (fun q_1 H locs hq2 hP hD hS => ?_)
  have hP : va_P g.1 vwCl (List.flatten [bTown g o a pe wo tx ch jo tr dy sd f]) H := hP
  have hD : va_D A (List.flatten [bTown g o a pe wo tx ch jo tr dy sd f]) := hD
  refine W.widen (k := 0) (n := 0) (Nat.le_of_ble_eq_true rfl) (Nat.le_of_ble_eq_true rfl) ?_
  refine W.eq (g2 := F0 m 4 ls [.int q_1]) rfl ?_
  refine lv_istore_n (lv' := [(2, .int q_1), (0, .ref o), (1, .null)]) hx hb dX9_keepWorks_4 rfl hl (by decide) rfl (fun ls hl => ?_)
  refine lv_iconst (v := 0) hx hb dX9_keepWorks_5 (by decide) ?_
  refine lv_istore_n (lv' := [(3, .int 0), (2, .int q_1), (0, .ref o), (1, .null)]) hx hb dX9_keepWorks_6 rfl hl (by decide) rfl (fun ls hl => ?_)
  refine lv_iconst (v := 0) hx hb dX9_keepWorks_7 (by decide) ?_
  refine lv_istore (lv' := [(4, .int 0), (3, .int 0), (2, .int q_1), (0, .ref o), (1, .null)]) hx hb dX9_keepWorks_8 hl (by decide) rfl (fun ls hl => ?_)
  have hl := lv_sub (l' := [(0, .ref o), (1, .null), (2, .int q_1), (3, .int 0), (4, .int 0)]) hl [3, 4, 2, 1, 0] rfl
  have LP10_8 : ∀ (kf : Nat) (x_3 : Int32) (x_4 : Int32) (x_5 : Int32) (f_6 : Nat → Nat → Int32), (0 ≤ x_4.toInt ∧ x_4.toInt ≤ 6) → (zZ4 f_6) → ∀ (H : Heap) (locs : List Loc) (ls : Array Slot), ((7 - x_4.toInt).toNat) < kf → va_P g.1 vwCl (List.flatten [bTown g o a pe wo tx x_5 jo tr dy sd f_6]) H → va_D A (List.flatten [bTown g o a pe wo tx x_5 jo tr dy sd f_6]) → va_S A s.heap H locs → lv_has ls 5 [(0, .ref o), (1, .null), (2, .int q_1), (3, .int x_3), (4, .int x_4)] → W p l e ({ frames := 2, cells := 0, slots := 0, locals := 43 } : Room) s m args below meth c H locs (0) (0) (zF g (fun u : Int32 × (Nat → Nat → Int32) × Int32 => (fun (ch2 : Int32) (f2 : Nat → Nat → Int32) (q : Int32) => some (.int q)) (u.1) (u.2.1) (u.2.2)) (fun u : Int32 × (Nat → Nat → Int32) × Int32 => (fun (ch2 : Int32) (f2 : Nat → Nat → Int32) (q : Int32) => (zZ4 f2)) (u.1) (u.2.1) (u.2.2)) (fun u : Int32 × (Nat → Nat → Int32) × Int32 => (fun (ch2 : Int32) (f2 : Nat → Nat → Int32) (q : Int32) => [bTown g o a pe wo tx ch2 jo tr dy sd f2]) (u.1) (u.2.1) (u.2.2)) ({ frames := 2, cells := 0, slots := 0, locals := 43 } : Room) below args s A) (F0 m 10 ls []) := by
    intro kf
    induction kf with
    | zero => intro x_3 x_4 x_5 f_6 i7 rf_6 H locs ls hk; exact absurd hk (Nat.not_lt_zero _)
    | succ kf ih10_9 =>
      intro x_3 x_4 x_5 f_6 i7 rf_6 H locs ls hk10_9 hP hD hS hl
      refine lv_iload hx hb dX9_keepWorks_10 (lv_at hl 4 rfl) ?_
      refine lv_aload_n hx hb dX9_keepWorks_12 rfl (lv_at hl 0 rfl) ?_
      refine va_get (D := g.1) (ci := 7) (v := .int wo) (C := RX9) (T := TX9) (N := 19) hx hb hts izRX9 hown hK hP 0 rfl rfl 1 (by decide) (hts _ k32) (fun _ h9 => h9) rfl dX9_keepWorks_13 ?_
      refine lv_icmp_ge (tgt := 172) hx hb dX9_keepWorks_16 (by decide) (fun cb9 => ?_) (fun cb9 => ?_)
      · skip
        have c10 : wo.toInt ≤ x_4.toInt := zle cb9 rfl rfl
        refine lv_iload_n hx hb dX9_keepWorks_172 rfl (lv_at hl 3 rfl) ?_
        have hP : va_P g.1 vwCl (List.flatten [bTown g o a pe wo tx x_5 jo tr dy sd f_6]) H := hP
        have hD : va_D A (List.flatten [bTown g o a pe wo tx x_5 jo tr dy sd f_6]) := hD
        exact mret_i hx hb hr hlocks hS (Nat.le_of_ble_eq_true rfl) (Nat.le_of_ble_eq_true rfl) dX9_keepWorks_173 (x_5, f_6, x_3) rfl (show (zZ4 f_6) from rf_6) hP hD
      · skip
        have c11 : x_4.toInt < wo.toInt := zlti (Int32.not_le.mp cb9) rfl rfl
        have n12 : x_4.toInt ≤ 5 := zL1 (b := 6) c11 b_wo.2 (by decide)
        have n13 : 1 ≤ wo.toInt := zL2 (a := 0) c11 i7.1 (by decide)
        refine lv_aload_n hx hb dX9_keepWorks_19 rfl (lv_at hl 0 rfl) ?_
        refine va_get (D := g.1) (ci := 7) (v := .ref (a 9)) (C := RX9) (T := TX9) (N := 19) hx hb hts izRX9 hown hK hP 0 rfl rfl 17 (by decide) (hts _ k19) (fun _ h9 => h9) rfl dX9_keepWorks_20 ?_
        refine lv_iload hx hb dX9_keepWorks_23 (lv_at hl 4 rfl) ?_
        refine va_iald hx hb hK hP 10 0 rfl rfl (zinK (a := 0) (b := 5) i7.1 n12 (by decide)) dX9_keepWorks_25 ?_
        refine zg (fun x_14 => ?_)
        refine lv_if_ne (tgt := 89) hx hb dX9_keepWorks_26 (by decide) (fun cb9 => ?_) (fun cb9 => ?_)
        · skip
          have c15 : ¬ x_14.toInt = 0 := zne cb9 rfl (by decide)
          refine lv_aload_n hx hb dX9_keepWorks_89 rfl (lv_at hl 0 rfl) ?_
          refine va_get (D := g.1) (ci := 7) (v := .ref (a 9)) (C := RX9) (T := TX9) (N := 19) hx hb hts izRX9 hown hK hP 0 rfl rfl 17 (by decide) (hts _ k19) (fun _ h9 => h9) rfl dX9_keepWorks_90 ?_
          refine lv_iload hx hb dX9_keepWorks_93 (lv_at hl 4 rfl) ?_
          refine va_iald hx hb hK hP 10 0 rfl rfl (zinK (a := 0) (b := 5) i7.1 n12 (by decide)) dX9_keepWorks_95 ?_
          refine zg (fun x_16 => ?_)
          refine lv_iconst (v := 1) hx hb dX9_keepWorks_96 (by decide) ?_
          refine lv_icmp_ne (tgt := 133) hx hb dX9_keepWorks_97 (by decide) (fun cb9 => ?_) (fun cb9 => ?_)
          · skip
            have c17 : ¬ x_16.toInt = 1 := zne cb9 rfl (by decide)
            refine lv_aload_n hx hb dX9_keepWorks_133 rfl (lv_at hl 0 rfl) ?_
            refine va_get (D := g.1) (ci := 7) (v := .ref (a 9)) (C := RX9) (T := TX9) (N := 19) hx hb hts izRX9 hown hK hP 0 rfl rfl 17 (by decide) (hts _ k19) (fun _ h9 => h9) rfl dX9_keepWorks_134 ?_
            refine lv_iload hx hb dX9_keepWorks_137 (lv_at hl 4 rfl) ?_
            refine va_iald hx hb hK hP 10 0 rfl rfl (zinK (a := 0) (b := 5) i7.1 n12 (by decide)) dX9_keepWorks_139 ?_
            refine zg (fun x_18 => ?_)
            refine lv_iconst (v := 1) hx hb dX9_keepWorks_140 (by decide) ?_
            refine lv_icmp_ne (tgt := 166) hx hb dX9_keepWorks_141 (by decide) (fun cb9 => ?_) (fun cb9 => ?_)
            · skip
              have c19 : ¬ x_18.toInt = 1 := zne cb9 rfl (by decide)
              refine ziinc3 (n' := 1) (a' := 1) (b' := 6) (lv' := fun v9 => [(4, .int v9), (0, .ref o), (1, .null), (2, .int q_1), (3, .int x_3)]) hx hb dX9_keepWorks_166 hl (k := 4) rfl (by decide) (fun _ => rfl) (zaddK (i := x_4.toInt) (j := 1) rfl (by decide) i7.1 n12 (Int.le_refl _) (Int.le_refl _) (by decide)) (fun x_20 ls hx_20 hl => ?_)
              refine lv_goto (tgt := 10) hx hb dX9_keepWorks_169 (by decide) ?_
              have hl := lv_sub (l' := [(0, .ref o), (1, .null), (2, .int q_1), (3, .int x_3), (4, .int x_20)]) hl [1, 2, 3, 4, 0] rfl
              have hP : va_P g.1 vwCl (List.flatten [bTown g o a pe wo tx x_5 jo tr dy sd f_6]) H := hP
              have hD : va_D A (List.flatten [bTown g o a pe wo tx x_5 jo tr dy sd f_6]) := hD
              exact ih10_9 x_3 x_20 x_5 f_6 ⟨(Int.le_trans (by decide) hx_20.2.1), hx_20.2.2⟩ rf_6 H _ ls (zmK hx_20.1 (by decide) n12 (by decide) hk10_9)  hP hD hS (lv_sub hl [0, 1, 2, 3, 4] rfl)
            · skip
              have c21 : x_18.toInt = 1 := zeq cb9 rfl (by decide)
              have n22 : 1 ≤ x_18.toInt := Int.le_trans (Int.le_refl _) (Int.le_of_eq c21.symm)
              have n23 : x_18.toInt ≤ 1 := Int.le_trans (Int.le_of_eq c21) (Int.le_refl _)
              refine lv_aload_n hx hb dX9_keepWorks_144 rfl (lv_at hl 0 rfl) ?_
              refine lv_sipush (v := 9999) hx hb dX9_keepWorks_145 (by decide) ?_
              refine lv_aload_n hx hb dX9_keepWorks_148 rfl (lv_at hl 0 rfl) ?_
              refine va_get (D := g.1) (ci := 7) (v := .int x_5) (C := RX9) (T := TX9) (N := 19) hx hb hts izRX9 hown hK hP 0 rfl rfl 3 (by decide) (hts _ k4) (fun _ h9 => h9) rfl dX9_keepWorks_149 ?_
              refine lv_aload_n hx hb dX9_keepWorks_152 rfl (lv_at hl 0 rfl) ?_
              refine va_get (D := g.1) (ci := 7) (v := .ref (a 8)) (C := RX9) (T := TX9) (N := 19) hx hb hts izRX9 hown hK hP 0 rfl rfl 16 (by decide) (hts _ k18) (fun _ h9 => h9) rfl dX9_keepWorks_153 ?_
              refine lv_iload hx hb dX9_keepWorks_156 (lv_at hl 4 rfl) ?_
              refine va_iald hx hb hK hP 9 0 rfl rfl (zinK (a := 0) (b := 5) i7.1 n12 (by decide)) dX9_keepWorks_158 ?_
              refine zg (fun x_24 => ?_)
              refine lv_iadd hx hb dX9_keepWorks_159 ?_
              refine zg (fun x_25 => ?_)
              refine va_mmin hx hb (by rw [hml]; exact hl.1.symm) hown (hts _ k40) (hts _ k41) (hts _ k42) (hts _ k43) (Nat.le_of_ble_eq_true rfl) (Nat.le_of_ble_eq_true rfl) (Nat.le_of_ble_eq_true rfl) (Nat.le_of_ble_eq_true rfl) dX9_keepWorks_160 ?_
              refine zgmn (i := 9999) (j := x_25.toInt) (by decide) rfl (fun x_26 hx_26 => ?_)
              refine va_put (D := g.1) (ci := 7) (v := .int x_26) (ty := .int) (C := RX9) (T := TX9) (N := 19) hx hb hts izRX9 tyX9 tyX9_ok nmX9 hown hK hP hD hS 0 rfl rfl 3 (by decide) (hts _ k4) (fun _ h9 => h9) rfl (by decide +kernel) rfl rfl (Nat.le_of_ble_eq_true rfl) dX9_keepWorks_163 (fun H locs hP hD hS => ?_)
              have hP : va_P g.1 vwCl (List.flatten [bTown g o a pe wo tx x_26 jo tr dy sd f_6]) H := hP
              have hD : va_D A (List.flatten [bTown g o a pe wo tx x_26 jo tr dy sd f_6]) := hD
              refine ziinc3 (n' := 1) (a' := 1) (b' := 6) (lv' := fun v9 => [(4, .int v9), (0, .ref o), (1, .null), (2, .int q_1), (3, .int x_3)]) hx hb dX9_keepWorks_166 hl (k := 4) rfl (by decide) (fun _ => rfl) (zaddK (i := x_4.toInt) (j := 1) rfl (by decide) i7.1 n12 (Int.le_refl _) (Int.le_refl _) (by decide)) (fun x_27 ls hx_27 hl => ?_)
              refine lv_goto (tgt := 10) hx hb dX9_keepWorks_169 (by decide) ?_
              have hl := lv_sub (l' := [(0, .ref o), (1, .null), (2, .int q_1), (3, .int x_3), (4, .int x_27)]) hl [1, 2, 3, 4, 0] rfl
              have hP : va_P g.1 vwCl (List.flatten [bTown g o a pe wo tx x_26 jo tr dy sd f_6]) H := hP
              have hD : va_D A (List.flatten [bTown g o a pe wo tx x_26 jo tr dy sd f_6]) := hD
              exact ih10_9 x_3 x_27 x_26 f_6 ⟨(Int.le_trans (by decide) hx_27.2.1), hx_27.2.2⟩ rf_6 H _ ls (zmK hx_27.1 (by decide) n12 (by decide) hk10_9)  hP hD hS (lv_sub hl [0, 1, 2, 3, 4] rfl)
          · skip
            have c28 : x_16.toInt = 1 := zeq cb9 rfl (by decide)
            have n29 : 1 ≤ x_16.toInt := Int.le_trans (Int.le_refl _) (Int.le_of_eq c28.symm)
            have n30 : x_16.toInt ≤ 1 := Int.le_trans (Int.le_of_eq c28) (Int.le_refl _)
            refine lv_iload_n hx hb dX9_keepWorks_100 rfl (lv_at hl 2 rfl) ?_
            refine lv_aload_n hx hb dX9_keepWorks_101 rfl (lv_at hl 0 rfl) ?_
            refine va_get (D := g.1) (ci := 7) (v := .ref (a 7)) (C := RX9) (T := TX9) (N := 19) hx hb hts izRX9 hown hK hP 0 rfl rfl 15 (by decide) (hts _ k17) (fun _ h9 => h9) rfl dX9_keepWorks_102 ?_
            refine lv_iload hx hb dX9_keepWorks_105 (lv_at hl 4 rfl) ?_
            refine va_iald hx hb hK hP 8 0 rfl rfl (zinK (a := 0) (b := 5) i7.1 n12 (by decide)) dX9_keepWorks_107 ?_
            refine zg (fun x_31 => ?_)
            refine lv_icmp_ge (tgt := 133) hx hb dX9_keepWorks_108 (by decide) (fun cb9 => ?_) (fun cb9 => ?_)
            · skip
              have c32 : x_31.toInt ≤ q_1.toInt := zle cb9 rfl rfl
              refine lv_aload_n hx hb dX9_keepWorks_133 rfl (lv_at hl 0 rfl) ?_
              refine va_get (D := g.1) (ci := 7) (v := .ref (a 9)) (C := RX9) (T := TX9) (N := 19) hx hb hts izRX9 hown hK hP 0 rfl rfl 17 (by decide) (hts _ k19) (fun _ h9 => h9) rfl dX9_keepWorks_134 ?_
              refine lv_iload hx hb dX9_keepWorks_137 (lv_at hl 4 rfl) ?_
              refine va_iald hx hb hK hP 10 0 rfl rfl (zinK (a := 0) (b := 5) i7.1 n12 (by decide)) dX9_keepWorks_139 ?_
              refine zg (fun x_33 => ?_)
              refine lv_iconst (v := 1) hx hb dX9_keepWorks_140 (by decide) ?_
              refine lv_icmp_ne (tgt := 166) hx hb dX9_keepWorks_141 (by decide) (fun cb9 => ?_) (fun cb9 => ?_)
              · skip
                have c34 : ¬ x_33.toInt = 1 := zne cb9 rfl (by decide)
                refine ziinc3 (n' := 1) (a' := 1) (b' := 6) (lv' := fun v9 => [(4, .int v9), (0, .ref o), (1, .null), (2, .int q_1), (3, .int x_3)]) hx hb dX9_keepWorks_166 hl (k := 4) rfl (by decide) (fun _ => rfl) (zaddK (i := x_4.toInt) (j := 1) rfl (by decide) i7.1 n12 (Int.le_refl _) (Int.le_refl _) (by decide)) (fun x_35 ls hx_35 hl => ?_)
                refine lv_goto (tgt := 10) hx hb dX9_keepWorks_169 (by decide) ?_
                have hl := lv_sub (l' := [(0, .ref o), (1, .null), (2, .int q_1), (3, .int x_3), (4, .int x_35)]) hl [1, 2, 3, 4, 0] rfl
                have hP : va_P g.1 vwCl (List.flatten [bTown g o a pe wo tx x_5 jo tr dy sd f_6]) H := hP
                have hD : va_D A (List.flatten [bTown g o a pe wo tx x_5 jo tr dy sd f_6]) := hD
                exact ih10_9 x_3 x_35 x_5 f_6 ⟨(Int.le_trans (by decide) hx_35.2.1), hx_35.2.2⟩ rf_6 H _ ls (zmK hx_35.1 (by decide) n12 (by decide) hk10_9)  hP hD hS (lv_sub hl [0, 1, 2, 3, 4] rfl)
              · skip
                have c36 : x_33.toInt = 1 := zeq cb9 rfl (by decide)
                have n37 : 1 ≤ x_33.toInt := Int.le_trans (Int.le_refl _) (Int.le_of_eq c36.symm)
                have n38 : x_33.toInt ≤ 1 := Int.le_trans (Int.le_of_eq c36) (Int.le_refl _)
                refine lv_aload_n hx hb dX9_keepWorks_144 rfl (lv_at hl 0 rfl) ?_
                refine lv_sipush (v := 9999) hx hb dX9_keepWorks_145 (by decide) ?_
                refine lv_aload_n hx hb dX9_keepWorks_148 rfl (lv_at hl 0 rfl) ?_
                refine va_get (D := g.1) (ci := 7) (v := .int x_5) (C := RX9) (T := TX9) (N := 19) hx hb hts izRX9 hown hK hP 0 rfl rfl 3 (by decide) (hts _ k4) (fun _ h9 => h9) rfl dX9_keepWorks_149 ?_
                refine lv_aload_n hx hb dX9_keepWorks_152 rfl (lv_at hl 0 rfl) ?_
                refine va_get (D := g.1) (ci := 7) (v := .ref (a 8)) (C := RX9) (T := TX9) (N := 19) hx hb hts izRX9 hown hK hP 0 rfl rfl 16 (by decide) (hts _ k18) (fun _ h9 => h9) rfl dX9_keepWorks_153 ?_
                refine lv_iload hx hb dX9_keepWorks_156 (lv_at hl 4 rfl) ?_
                refine va_iald hx hb hK hP 9 0 rfl rfl (zinK (a := 0) (b := 5) i7.1 n12 (by decide)) dX9_keepWorks_158 ?_
                refine zg (fun x_39 => ?_)
                refine lv_iadd hx hb dX9_keepWorks_159 ?_
                refine zg (fun x_40 => ?_)
                refine va_mmin hx hb (by rw [hml]; exact hl.1.symm) hown (hts _ k40) (hts _ k41) (hts _ k42) (hts _ k43) (Nat.le_of_ble_eq_true rfl) (Nat.le_of_ble_eq_true rfl) (Nat.le_of_ble_eq_true rfl) (Nat.le_of_ble_eq_true rfl) dX9_keepWorks_160 ?_
                refine zgmn (i := 9999) (j := x_40.toInt) (by decide) rfl (fun x_41 hx_41 => ?_)
                refine va_put (D := g.1) (ci := 7) (v := .int x_41) (ty := .int) (C := RX9) (T := TX9) (N := 19) hx hb hts izRX9 tyX9 tyX9_ok nmX9 hown hK hP hD hS 0 rfl rfl 3 (by decide) (hts _ k4) (fun _ h9 => h9) rfl (by decide +kernel) rfl rfl (Nat.le_of_ble_eq_true rfl) dX9_keepWorks_163 (fun H locs hP hD hS => ?_)
                have hP : va_P g.1 vwCl (List.flatten [bTown g o a pe wo tx x_41 jo tr dy sd f_6]) H := hP
                have hD : va_D A (List.flatten [bTown g o a pe wo tx x_41 jo tr dy sd f_6]) := hD
                refine ziinc3 (n' := 1) (a' := 1) (b' := 6) (lv' := fun v9 => [(4, .int v9), (0, .ref o), (1, .null), (2, .int q_1), (3, .int x_3)]) hx hb dX9_keepWorks_166 hl (k := 4) rfl (by decide) (fun _ => rfl) (zaddK (i := x_4.toInt) (j := 1) rfl (by decide) i7.1 n12 (Int.le_refl _) (Int.le_refl _) (by decide)) (fun x_42 ls hx_42 hl => ?_)
                refine lv_goto (tgt := 10) hx hb dX9_keepWorks_169 (by decide) ?_
                have hl := lv_sub (l' := [(0, .ref o), (1, .null), (2, .int q_1), (3, .int x_3), (4, .int x_42)]) hl [1, 2, 3, 4, 0] rfl
                have hP : va_P g.1 vwCl (List.flatten [bTown g o a pe wo tx x_41 jo tr dy sd f_6]) H := hP
                have hD : va_D A (List.flatten [bTown g o a pe wo tx x_41 jo tr dy sd f_6]) := hD
                exact ih10_9 x_3 x_42 x_41 f_6 ⟨(Int.le_trans (by decide) hx_42.2.1), hx_42.2.2⟩ rf_6 H _ ls (zmK hx_42.1 (by decide) n12 (by decide) hk10_9)  hP hD hS (lv_sub hl [0, 1, 2, 3, 4] rfl)
            · skip
              have c43 : q_1.toInt < x_31.toInt := zlti (Int32.not_le.mp cb9) rfl rfl
              refine lv_aload_n hx hb dX9_keepWorks_111 rfl (lv_at hl 0 rfl) ?_
              refine va_get (D := g.1) (ci := 7) (v := .ref (a 9)) (C := RX9) (T := TX9) (N := 19) hx hb hts izRX9 hown hK hP 0 rfl rfl 17 (by decide) (hts _ k19) (fun _ h9 => h9) rfl dX9_keepWorks_112 ?_
              refine lv_iload hx hb dX9_keepWorks_115 (lv_at hl 4 rfl) ?_
              refine lv_iconst (v := 2) hx hb dX9_keepWorks_117 (by decide) ?_
              refine va_iast hx hb hK hP hD hS 10 0 rfl rfl (zinK (a := 0) (b := 5) i7.1 n12 (by decide)) dX9_keepWorks_118 (fun H locs hP hD hS => ?_)
              obtain ⟨f44, rf44, hP, hD⟩ : ∃ f44 : Nat → Nat → Int32, zZ4 f44 ∧ va_P g.1 vwCl (List.flatten [bTown g o a pe wo tx x_5 jo tr dy sd f44]) H ∧ va_D A (List.flatten [bTown g o a pe wo tx x_5 jo tr dy sd f44]) := ⟨zu f_6 9 (upd (f_6 9) x_4.toNatClampNeg 2), (zZ4_u rf_6 (by decide)), hP, hD⟩
              refine ziincG (lv' := fun v9 => [(3, .int v9), (0, .ref o), (1, .null), (2, .int q_1), (4, .int x_4)]) hx hb dX9_keepWorks_119 hl (k := 3) rfl (by decide) (fun _ => rfl) (fun x_45 ls hl => ?_)
              refine lv_aload_n hx hb dX9_keepWorks_122 rfl (lv_at hl 1 rfl) ?_
              refine lv_aload_nN hx hb dX9_keepWorks_123 rfl (lv_at hl 2 rfl) ?_
              refine lv_iload hx hb dX9_keepWorks_124 (lv_at hl 4 rfl) ?_
              refine lv_iconst (v := 1) hx hb dX9_keepWorks_126 (by decide) ?_
              refine mcallV' (g := g) (q0 := 0) (ci := 7) (As := [.null, .int x_4, .int 1]) (rest := []) St hK hT hA hP hD hS hl.1 [0] [] rfl rfl rfl (c_writeN l g o a pe wo tx x_5 jo tr dy sd f44 x_4 1 b_pe b_wo rf44) (cwV 3 hts (zgL (zl4 k125 k126 k127 k24) k124) rfl rfl rfl (by decide +kernel) ⟨Nat.le_of_ble_eq_true rfl, Nat.le_of_ble_eq_true rfl⟩) rfl rfl rfl rfl (Nat.le_of_ble_eq_true rfl) dX9_keepWorks_127 ⟨(Nat.le_of_ble_eq_true rfl), (Nat.le_of_ble_eq_true rfl)⟩ (fun _u H locs hq46 hP hD hS => ?_)
              have hP : va_P g.1 vwCl (List.flatten [bTown g o a pe wo tx x_5 jo tr dy sd f44]) H := hP
              have hD : va_D A (List.flatten [bTown g o a pe wo tx x_5 jo tr dy sd f44]) := hD
              refine W.widen (k := 0) (n := 0) (Nat.le_of_ble_eq_true rfl) (Nat.le_of_ble_eq_true rfl) ?_
              refine W.eq (g2 := F0 m 130 ls []) rfl ?_
              refine lv_goto (tgt := 166) hx hb dX9_keepWorks_130 (by decide) ?_
              refine ziinc3 (n' := 1) (a' := 1) (b' := 6) (lv' := fun v9 => [(4, .int v9), (3, .int x_45), (0, .ref o), (1, .null), (2, .int q_1)]) hx hb dX9_keepWorks_166 hl (k := 4) rfl (by decide) (fun _ => rfl) (zaddK (i := x_4.toInt) (j := 1) rfl (by decide) i7.1 n12 (Int.le_refl _) (Int.le_refl _) (by decide)) (fun x_47 ls hx_47 hl => ?_)
              refine lv_goto (tgt := 10) hx hb dX9_keepWorks_169 (by decide) ?_
              have hl := lv_sub (l' := [(0, .ref o), (1, .null), (2, .int q_1), (3, .int x_45), (4, .int x_47)]) hl [2, 3, 4, 1, 0] rfl
              have hP : va_P g.1 vwCl (List.flatten [bTown g o a pe wo tx x_5 jo tr dy sd f44]) H := hP
              have hD : va_D A (List.flatten [bTown g o a pe wo tx x_5 jo tr dy sd f44]) := hD
              exact ih10_9 x_45 x_47 x_5 f44 ⟨(Int.le_trans (by decide) hx_47.2.1), hx_47.2.2⟩ rf44 H _ ls (zmK hx_47.1 (by decide) n12 (by decide) hk10_9)  hP hD hS (lv_sub hl [0, 1, 2, 3, 4] rfl)
        · skip
          have c48 : x_14.toInt = 0 := zeq cb9 rfl (by decide)
          have n49 : 0 ≤ x_14.toInt := Int.le_trans (Int.le_refl _) (Int.le_of_eq c48.symm)
          have n50 : x_14.toInt ≤ 0 := Int.le_trans (Int.le_of_eq c48) (Int.le_refl _)
          refine lv_iload_n hx hb dX9_keepWorks_29 rfl (lv_at hl 2 rfl) ?_
          refine lv_aload_n hx hb dX9_keepWorks_30 rfl (lv_at hl 0 rfl) ?_
          refine va_get (D := g.1) (ci := 7) (v := .ref (a 7)) (C := RX9) (T := TX9) (N := 19) hx hb hts izRX9 hown hK hP 0 rfl rfl 15 (by decide) (hts _ k17) (fun _ h9 => h9) rfl dX9_keepWorks_31 ?_
          refine lv_iload hx hb dX9_keepWorks_34 (lv_at hl 4 rfl) ?_
          refine va_iald hx hb hK hP 8 0 rfl rfl (zinK (a := 0) (b := 5) i7.1 n12 (by decide)) dX9_keepWorks_36 ?_
          refine zg (fun x_51 => ?_)
          refine lv_icmp_lt (tgt := 89) hx hb dX9_keepWorks_37 (by decide) (fun cb9 => ?_) (fun cb9 => ?_)
          · skip
            have c52 : q_1.toInt < x_51.toInt := zlti cb9 rfl rfl
            refine lv_aload_n hx hb dX9_keepWorks_89 rfl (lv_at hl 0 rfl) ?_
            refine va_get (D := g.1) (ci := 7) (v := .ref (a 9)) (C := RX9) (T := TX9) (N := 19) hx hb hts izRX9 hown hK hP 0 rfl rfl 17 (by decide) (hts _ k19) (fun _ h9 => h9) rfl dX9_keepWorks_90 ?_
            refine lv_iload hx hb dX9_keepWorks_93 (lv_at hl 4 rfl) ?_
            refine va_iald hx hb hK hP 10 0 rfl rfl (zinK (a := 0) (b := 5) i7.1 n12 (by decide)) dX9_keepWorks_95 ?_
            refine zg (fun x_53 => ?_)
            refine lv_iconst (v := 1) hx hb dX9_keepWorks_96 (by decide) ?_
            refine lv_icmp_ne (tgt := 133) hx hb dX9_keepWorks_97 (by decide) (fun cb9 => ?_) (fun cb9 => ?_)
            · skip
              have c54 : ¬ x_53.toInt = 1 := zne cb9 rfl (by decide)
              refine lv_aload_n hx hb dX9_keepWorks_133 rfl (lv_at hl 0 rfl) ?_
              refine va_get (D := g.1) (ci := 7) (v := .ref (a 9)) (C := RX9) (T := TX9) (N := 19) hx hb hts izRX9 hown hK hP 0 rfl rfl 17 (by decide) (hts _ k19) (fun _ h9 => h9) rfl dX9_keepWorks_134 ?_
              refine lv_iload hx hb dX9_keepWorks_137 (lv_at hl 4 rfl) ?_
              refine va_iald hx hb hK hP 10 0 rfl rfl (zinK (a := 0) (b := 5) i7.1 n12 (by decide)) dX9_keepWorks_139 ?_
              refine zg (fun x_55 => ?_)
              refine lv_iconst (v := 1) hx hb dX9_keepWorks_140 (by decide) ?_
              refine lv_icmp_ne (tgt := 166) hx hb dX9_keepWorks_141 (by decide) (fun cb9 => ?_) (fun cb9 => ?_)
              · skip
                have c56 : ¬ x_55.toInt = 1 := zne cb9 rfl (by decide)
                refine ziinc3 (n' := 1) (a' := 1) (b' := 6) (lv' := fun v9 => [(4, .int v9), (0, .ref o), (1, .null), (2, .int q_1), (3, .int x_3)]) hx hb dX9_keepWorks_166 hl (k := 4) rfl (by decide) (fun _ => rfl) (zaddK (i := x_4.toInt) (j := 1) rfl (by decide) i7.1 n12 (Int.le_refl _) (Int.le_refl _) (by decide)) (fun x_57 ls hx_57 hl => ?_)
                refine lv_goto (tgt := 10) hx hb dX9_keepWorks_169 (by decide) ?_
                have hl := lv_sub (l' := [(0, .ref o), (1, .null), (2, .int q_1), (3, .int x_3), (4, .int x_57)]) hl [1, 2, 3, 4, 0] rfl
                have hP : va_P g.1 vwCl (List.flatten [bTown g o a pe wo tx x_5 jo tr dy sd f_6]) H := hP
                have hD : va_D A (List.flatten [bTown g o a pe wo tx x_5 jo tr dy sd f_6]) := hD
                exact ih10_9 x_3 x_57 x_5 f_6 ⟨(Int.le_trans (by decide) hx_57.2.1), hx_57.2.2⟩ rf_6 H _ ls (zmK hx_57.1 (by decide) n12 (by decide) hk10_9)  hP hD hS (lv_sub hl [0, 1, 2, 3, 4] rfl)
              · skip
                have c58 : x_55.toInt = 1 := zeq cb9 rfl (by decide)
                have n59 : 1 ≤ x_55.toInt := Int.le_trans (Int.le_refl _) (Int.le_of_eq c58.symm)
                have n60 : x_55.toInt ≤ 1 := Int.le_trans (Int.le_of_eq c58) (Int.le_refl _)
                refine lv_aload_n hx hb dX9_keepWorks_144 rfl (lv_at hl 0 rfl) ?_
                refine lv_sipush (v := 9999) hx hb dX9_keepWorks_145 (by decide) ?_
                refine lv_aload_n hx hb dX9_keepWorks_148 rfl (lv_at hl 0 rfl) ?_
                refine va_get (D := g.1) (ci := 7) (v := .int x_5) (C := RX9) (T := TX9) (N := 19) hx hb hts izRX9 hown hK hP 0 rfl rfl 3 (by decide) (hts _ k4) (fun _ h9 => h9) rfl dX9_keepWorks_149 ?_
                refine lv_aload_n hx hb dX9_keepWorks_152 rfl (lv_at hl 0 rfl) ?_
                refine va_get (D := g.1) (ci := 7) (v := .ref (a 8)) (C := RX9) (T := TX9) (N := 19) hx hb hts izRX9 hown hK hP 0 rfl rfl 16 (by decide) (hts _ k18) (fun _ h9 => h9) rfl dX9_keepWorks_153 ?_
                refine lv_iload hx hb dX9_keepWorks_156 (lv_at hl 4 rfl) ?_
                refine va_iald hx hb hK hP 9 0 rfl rfl (zinK (a := 0) (b := 5) i7.1 n12 (by decide)) dX9_keepWorks_158 ?_
                refine zg (fun x_61 => ?_)
                refine lv_iadd hx hb dX9_keepWorks_159 ?_
                refine zg (fun x_62 => ?_)
                refine va_mmin hx hb (by rw [hml]; exact hl.1.symm) hown (hts _ k40) (hts _ k41) (hts _ k42) (hts _ k43) (Nat.le_of_ble_eq_true rfl) (Nat.le_of_ble_eq_true rfl) (Nat.le_of_ble_eq_true rfl) (Nat.le_of_ble_eq_true rfl) dX9_keepWorks_160 ?_
                refine zgmn (i := 9999) (j := x_62.toInt) (by decide) rfl (fun x_63 hx_63 => ?_)
                refine va_put (D := g.1) (ci := 7) (v := .int x_63) (ty := .int) (C := RX9) (T := TX9) (N := 19) hx hb hts izRX9 tyX9 tyX9_ok nmX9 hown hK hP hD hS 0 rfl rfl 3 (by decide) (hts _ k4) (fun _ h9 => h9) rfl (by decide +kernel) rfl rfl (Nat.le_of_ble_eq_true rfl) dX9_keepWorks_163 (fun H locs hP hD hS => ?_)
                have hP : va_P g.1 vwCl (List.flatten [bTown g o a pe wo tx x_63 jo tr dy sd f_6]) H := hP
                have hD : va_D A (List.flatten [bTown g o a pe wo tx x_63 jo tr dy sd f_6]) := hD
                refine ziinc3 (n' := 1) (a' := 1) (b' := 6) (lv' := fun v9 => [(4, .int v9), (0, .ref o), (1, .null), (2, .int q_1), (3, .int x_3)]) hx hb dX9_keepWorks_166 hl (k := 4) rfl (by decide) (fun _ => rfl) (zaddK (i := x_4.toInt) (j := 1) rfl (by decide) i7.1 n12 (Int.le_refl _) (Int.le_refl _) (by decide)) (fun x_64 ls hx_64 hl => ?_)
                refine lv_goto (tgt := 10) hx hb dX9_keepWorks_169 (by decide) ?_
                have hl := lv_sub (l' := [(0, .ref o), (1, .null), (2, .int q_1), (3, .int x_3), (4, .int x_64)]) hl [1, 2, 3, 4, 0] rfl
                have hP : va_P g.1 vwCl (List.flatten [bTown g o a pe wo tx x_63 jo tr dy sd f_6]) H := hP
                have hD : va_D A (List.flatten [bTown g o a pe wo tx x_63 jo tr dy sd f_6]) := hD
                exact ih10_9 x_3 x_64 x_63 f_6 ⟨(Int.le_trans (by decide) hx_64.2.1), hx_64.2.2⟩ rf_6 H _ ls (zmK hx_64.1 (by decide) n12 (by decide) hk10_9)  hP hD hS (lv_sub hl [0, 1, 2, 3, 4] rfl)
            · skip
              have c65 : x_53.toInt = 1 := zeq cb9 rfl (by decide)
              have n66 : 1 ≤ x_53.toInt := Int.le_trans (Int.le_refl _) (Int.le_of_eq c65.symm)
              have n67 : x_53.toInt ≤ 1 := Int.le_trans (Int.le_of_eq c65) (Int.le_refl _)
              refine lv_iload_n hx hb dX9_keepWorks_100 rfl (lv_at hl 2 rfl) ?_
              refine lv_aload_n hx hb dX9_keepWorks_101 rfl (lv_at hl 0 rfl) ?_
              refine va_get (D := g.1) (ci := 7) (v := .ref (a 7)) (C := RX9) (T := TX9) (N := 19) hx hb hts izRX9 hown hK hP 0 rfl rfl 15 (by decide) (hts _ k17) (fun _ h9 => h9) rfl dX9_keepWorks_102 ?_
              refine lv_iload hx hb dX9_keepWorks_105 (lv_at hl 4 rfl) ?_
              refine va_iald hx hb hK hP 8 0 rfl rfl (zinK (a := 0) (b := 5) i7.1 n12 (by decide)) dX9_keepWorks_107 ?_
              refine zg (fun x_68 => ?_)
              refine lv_icmp_ge (tgt := 133) hx hb dX9_keepWorks_108 (by decide) (fun cb9 => ?_) (fun cb9 => ?_)
              · skip
                have c69 : x_68.toInt ≤ q_1.toInt := zle cb9 rfl rfl
                refine lv_aload_n hx hb dX9_keepWorks_133 rfl (lv_at hl 0 rfl) ?_
                refine va_get (D := g.1) (ci := 7) (v := .ref (a 9)) (C := RX9) (T := TX9) (N := 19) hx hb hts izRX9 hown hK hP 0 rfl rfl 17 (by decide) (hts _ k19) (fun _ h9 => h9) rfl dX9_keepWorks_134 ?_
                refine lv_iload hx hb dX9_keepWorks_137 (lv_at hl 4 rfl) ?_
                refine va_iald hx hb hK hP 10 0 rfl rfl (zinK (a := 0) (b := 5) i7.1 n12 (by decide)) dX9_keepWorks_139 ?_
                refine zg (fun x_70 => ?_)
                refine lv_iconst (v := 1) hx hb dX9_keepWorks_140 (by decide) ?_
                refine lv_icmp_ne (tgt := 166) hx hb dX9_keepWorks_141 (by decide) (fun cb9 => ?_) (fun cb9 => ?_)
                · skip
                  have c71 : ¬ x_70.toInt = 1 := zne cb9 rfl (by decide)
                  refine ziinc3 (n' := 1) (a' := 1) (b' := 6) (lv' := fun v9 => [(4, .int v9), (0, .ref o), (1, .null), (2, .int q_1), (3, .int x_3)]) hx hb dX9_keepWorks_166 hl (k := 4) rfl (by decide) (fun _ => rfl) (zaddK (i := x_4.toInt) (j := 1) rfl (by decide) i7.1 n12 (Int.le_refl _) (Int.le_refl _) (by decide)) (fun x_72 ls hx_72 hl => ?_)
                  refine lv_goto (tgt := 10) hx hb dX9_keepWorks_169 (by decide) ?_
                  have hl := lv_sub (l' := [(0, .ref o), (1, .null), (2, .int q_1), (3, .int x_3), (4, .int x_72)]) hl [1, 2, 3, 4, 0] rfl
                  have hP : va_P g.1 vwCl (List.flatten [bTown g o a pe wo tx x_5 jo tr dy sd f_6]) H := hP
                  have hD : va_D A (List.flatten [bTown g o a pe wo tx x_5 jo tr dy sd f_6]) := hD
                  exact ih10_9 x_3 x_72 x_5 f_6 ⟨(Int.le_trans (by decide) hx_72.2.1), hx_72.2.2⟩ rf_6 H _ ls (zmK hx_72.1 (by decide) n12 (by decide) hk10_9)  hP hD hS (lv_sub hl [0, 1, 2, 3, 4] rfl)
                · skip
                  have c73 : x_70.toInt = 1 := zeq cb9 rfl (by decide)
                  have n74 : 1 ≤ x_70.toInt := Int.le_trans (Int.le_refl _) (Int.le_of_eq c73.symm)
                  have n75 : x_70.toInt ≤ 1 := Int.le_trans (Int.le_of_eq c73) (Int.le_refl _)
                  refine lv_aload_n hx hb dX9_keepWorks_144 rfl (lv_at hl 0 rfl) ?_
                  refine lv_sipush (v := 9999) hx hb dX9_keepWorks_145 (by decide) ?_
                  refine lv_aload_n hx hb dX9_keepWorks_148 rfl (lv_at hl 0 rfl) ?_
                  refine va_get (D := g.1) (ci := 7) (v := .int x_5) (C := RX9) (T := TX9) (N := 19) hx hb hts izRX9 hown hK hP 0 rfl rfl 3 (by decide) (hts _ k4) (fun _ h9 => h9) rfl dX9_keepWorks_149 ?_
                  refine lv_aload_n hx hb dX9_keepWorks_152 rfl (lv_at hl 0 rfl) ?_
                  refine va_get (D := g.1) (ci := 7) (v := .ref (a 8)) (C := RX9) (T := TX9) (N := 19) hx hb hts izRX9 hown hK hP 0 rfl rfl 16 (by decide) (hts _ k18) (fun _ h9 => h9) rfl dX9_keepWorks_153 ?_
                  refine lv_iload hx hb dX9_keepWorks_156 (lv_at hl 4 rfl) ?_
                  refine va_iald hx hb hK hP 9 0 rfl rfl (zinK (a := 0) (b := 5) i7.1 n12 (by decide)) dX9_keepWorks_158 ?_
                  refine zg (fun x_76 => ?_)
                  refine lv_iadd hx hb dX9_keepWorks_159 ?_
                  refine zg (fun x_77 => ?_)
                  refine va_mmin hx hb (by rw [hml]; exact hl.1.symm) hown (hts _ k40) (hts _ k41) (hts _ k42) (hts _ k43) (Nat.le_of_ble_eq_true rfl) (Nat.le_of_ble_eq_true rfl) (Nat.le_of_ble_eq_true rfl) (Nat.le_of_ble_eq_true rfl) dX9_keepWorks_160 ?_
                  refine zgmn (i := 9999) (j := x_77.toInt) (by decide) rfl (fun x_78 hx_78 => ?_)
                  refine va_put (D := g.1) (ci := 7) (v := .int x_78) (ty := .int) (C := RX9) (T := TX9) (N := 19) hx hb hts izRX9 tyX9 tyX9_ok nmX9 hown hK hP hD hS 0 rfl rfl 3 (by decide) (hts _ k4) (fun _ h9 => h9) rfl (by decide +kernel) rfl rfl (Nat.le_of_ble_eq_true rfl) dX9_keepWorks_163 (fun H locs hP hD hS => ?_)
                  have hP : va_P g.1 vwCl (List.flatten [bTown g o a pe wo tx x_78 jo tr dy sd f_6]) H := hP
                  have hD : va_D A (List.flatten [bTown g o a pe wo tx x_78 jo tr dy sd f_6]) := hD
                  refine ziinc3 (n' := 1) (a' := 1) (b' := 6) (lv' := fun v9 => [(4, .int v9), (0, .ref o), (1, .null), (2, .int q_1), (3, .int x_3)]) hx hb dX9_keepWorks_166 hl (k := 4) rfl (by decide) (fun _ => rfl) (zaddK (i := x_4.toInt) (j := 1) rfl (by decide) i7.1 n12 (Int.le_refl _) (Int.le_refl _) (by decide)) (fun x_79 ls hx_79 hl => ?_)
                  refine lv_goto (tgt := 10) hx hb dX9_keepWorks_169 (by decide) ?_
                  have hl := lv_sub (l' := [(0, .ref o), (1, .null), (2, .int q_1), (3, .int x_3), (4, .int x_79)]) hl [1, 2, 3, 4, 0] rfl
                  have hP : va_P g.1 vwCl (List.flatten [bTown g o a pe wo tx x_78 jo tr dy sd f_6]) H := hP
                  have hD : va_D A (List.flatten [bTown g o a pe wo tx x_78 jo tr dy sd f_6]) := hD
                  exact ih10_9 x_3 x_79 x_78 f_6 ⟨(Int.le_trans (by decide) hx_79.2.1), hx_79.2.2⟩ rf_6 H _ ls (zmK hx_79.1 (by decide) n12 (by decide) hk10_9)  hP hD hS (lv_sub hl [0, 1, 2, 3, 4] rfl)
              · skip
                have c80 : q_1.toInt < x_68.toInt := zlti (Int32.not_le.mp cb9) rfl rfl
                refine lv_aload_n hx hb dX9_keepWorks_111 rfl (lv_at hl 0 rfl) ?_
                refine va_get (D := g.1) (ci := 7) (v := .ref (a 9)) (C := RX9) (T := TX9) (N := 19) hx hb hts izRX9 hown hK hP 0 rfl rfl 17 (by decide) (hts _ k19) (fun _ h9 => h9) rfl dX9_keepWorks_112 ?_
                refine lv_iload hx hb dX9_keepWorks_115 (lv_at hl 4 rfl) ?_
                refine lv_iconst (v := 2) hx hb dX9_keepWorks_117 (by decide) ?_
                refine va_iast hx hb hK hP hD hS 10 0 rfl rfl (zinK (a := 0) (b := 5) i7.1 n12 (by decide)) dX9_keepWorks_118 (fun H locs hP hD hS => ?_)
                obtain ⟨f81, rf81, hP, hD⟩ : ∃ f81 : Nat → Nat → Int32, zZ4 f81 ∧ va_P g.1 vwCl (List.flatten [bTown g o a pe wo tx x_5 jo tr dy sd f81]) H ∧ va_D A (List.flatten [bTown g o a pe wo tx x_5 jo tr dy sd f81]) := ⟨zu f_6 9 (upd (f_6 9) x_4.toNatClampNeg 2), (zZ4_u rf_6 (by decide)), hP, hD⟩
                refine ziincG (lv' := fun v9 => [(3, .int v9), (0, .ref o), (1, .null), (2, .int q_1), (4, .int x_4)]) hx hb dX9_keepWorks_119 hl (k := 3) rfl (by decide) (fun _ => rfl) (fun x_82 ls hl => ?_)
                refine lv_aload_n hx hb dX9_keepWorks_122 rfl (lv_at hl 1 rfl) ?_
                refine lv_aload_nN hx hb dX9_keepWorks_123 rfl (lv_at hl 2 rfl) ?_
                refine lv_iload hx hb dX9_keepWorks_124 (lv_at hl 4 rfl) ?_
                refine lv_iconst (v := 1) hx hb dX9_keepWorks_126 (by decide) ?_
                refine mcallV' (g := g) (q0 := 0) (ci := 7) (As := [.null, .int x_4, .int 1]) (rest := []) St hK hT hA hP hD hS hl.1 [0] [] rfl rfl rfl (c_writeN l g o a pe wo tx x_5 jo tr dy sd f81 x_4 1 b_pe b_wo rf81) (cwV 3 hts (zgL (zl4 k125 k126 k127 k24) k124) rfl rfl rfl (by decide +kernel) ⟨Nat.le_of_ble_eq_true rfl, Nat.le_of_ble_eq_true rfl⟩) rfl rfl rfl rfl (Nat.le_of_ble_eq_true rfl) dX9_keepWorks_127 ⟨(Nat.le_of_ble_eq_true rfl), (Nat.le_of_ble_eq_true rfl)⟩ (fun _u H locs hq83 hP hD hS => ?_)
                have hP : va_P g.1 vwCl (List.flatten [bTown g o a pe wo tx x_5 jo tr dy sd f81]) H := hP
                have hD : va_D A (List.flatten [bTown g o a pe wo tx x_5 jo tr dy sd f81]) := hD
                refine W.widen (k := 0) (n := 0) (Nat.le_of_ble_eq_true rfl) (Nat.le_of_ble_eq_true rfl) ?_
                refine W.eq (g2 := F0 m 130 ls []) rfl ?_
                refine lv_goto (tgt := 166) hx hb dX9_keepWorks_130 (by decide) ?_
                refine ziinc3 (n' := 1) (a' := 1) (b' := 6) (lv' := fun v9 => [(4, .int v9), (3, .int x_82), (0, .ref o), (1, .null), (2, .int q_1)]) hx hb dX9_keepWorks_166 hl (k := 4) rfl (by decide) (fun _ => rfl) (zaddK (i := x_4.toInt) (j := 1) rfl (by decide) i7.1 n12 (Int.le_refl _) (Int.le_refl _) (by decide)) (fun x_84 ls hx_84 hl => ?_)
                refine lv_goto (tgt := 10) hx hb dX9_keepWorks_169 (by decide) ?_
                have hl := lv_sub (l' := [(0, .ref o), (1, .null), (2, .int q_1), (3, .int x_82), (4, .int x_84)]) hl [2, 3, 4, 1, 0] rfl
                have hP : va_P g.1 vwCl (List.flatten [bTown g o a pe wo tx x_5 jo tr dy sd f81]) H := hP
                have hD : va_D A (List.flatten [bTown g o a pe wo tx x_5 jo tr dy sd f81]) := hD
                exact ih10_9 x_82 x_84 x_5 f81 ⟨(Int.le_trans (by decide) hx_84.2.1), hx_84.2.2⟩ rf81 H _ ls (zmK hx_84.1 (by decide) n12 (by decide) hk10_9)  hP hD hS (lv_sub hl [0, 1, 2, 3, 4] rfl)
          · skip
            have c85 : x_51.toInt ≤ q_1.toInt := zle (Int32.not_lt.mp cb9) rfl rfl
            refine lv_aload_n hx hb dX9_keepWorks_40 rfl (lv_at hl 0 rfl) ?_
            refine va_get (D := g.1) (ci := 7) (v := .int x_5) (C := RX9) (T := TX9) (N := 19) hx hb hts izRX9 hown hK hP 0 rfl rfl 3 (by decide) (hts _ k4) (fun _ h9 => h9) rfl dX9_keepWorks_41 ?_
            refine lv_aload_n hx hb dX9_keepWorks_44 rfl (lv_at hl 0 rfl) ?_
            refine va_get (D := g.1) (ci := 7) (v := .ref (a 6)) (C := RX9) (T := TX9) (N := 19) hx hb hts izRX9 hown hK hP 0 rfl rfl 14 (by decide) (hts _ k16) (fun _ h9 => h9) rfl dX9_keepWorks_45 ?_
            refine lv_iload hx hb dX9_keepWorks_48 (lv_at hl 4 rfl) ?_
            refine va_iald hx hb hK hP 7 0 rfl rfl (zinK (a := 0) (b := 5) i7.1 n12 (by decide)) dX9_keepWorks_50 ?_
            refine zg (fun x_86 => ?_)
            refine lv_icmp_lt (tgt := 89) hx hb dX9_keepWorks_51 (by decide) (fun cb9 => ?_) (fun cb9 => ?_)
            · skip
              have c87 : x_5.toInt < x_86.toInt := zlti cb9 rfl rfl
              refine lv_aload_n hx hb dX9_keepWorks_89 rfl (lv_at hl 0 rfl) ?_
              refine va_get (D := g.1) (ci := 7) (v := .ref (a 9)) (C := RX9) (T := TX9) (N := 19) hx hb hts izRX9 hown hK hP 0 rfl rfl 17 (by decide) (hts _ k19) (fun _ h9 => h9) rfl dX9_keepWorks_90 ?_
              refine lv_iload hx hb dX9_keepWorks_93 (lv_at hl 4 rfl) ?_
              refine va_iald hx hb hK hP 10 0 rfl rfl (zinK (a := 0) (b := 5) i7.1 n12 (by decide)) dX9_keepWorks_95 ?_
              refine zg (fun x_88 => ?_)
              refine lv_iconst (v := 1) hx hb dX9_keepWorks_96 (by decide) ?_
              refine lv_icmp_ne (tgt := 133) hx hb dX9_keepWorks_97 (by decide) (fun cb9 => ?_) (fun cb9 => ?_)
              · skip
                have c89 : ¬ x_88.toInt = 1 := zne cb9 rfl (by decide)
                refine lv_aload_n hx hb dX9_keepWorks_133 rfl (lv_at hl 0 rfl) ?_
                refine va_get (D := g.1) (ci := 7) (v := .ref (a 9)) (C := RX9) (T := TX9) (N := 19) hx hb hts izRX9 hown hK hP 0 rfl rfl 17 (by decide) (hts _ k19) (fun _ h9 => h9) rfl dX9_keepWorks_134 ?_
                refine lv_iload hx hb dX9_keepWorks_137 (lv_at hl 4 rfl) ?_
                refine va_iald hx hb hK hP 10 0 rfl rfl (zinK (a := 0) (b := 5) i7.1 n12 (by decide)) dX9_keepWorks_139 ?_
                refine zg (fun x_90 => ?_)
                refine lv_iconst (v := 1) hx hb dX9_keepWorks_140 (by decide) ?_
                refine lv_icmp_ne (tgt := 166) hx hb dX9_keepWorks_141 (by decide) (fun cb9 => ?_) (fun cb9 => ?_)
                · skip
                  have c91 : ¬ x_90.toInt = 1 := zne cb9 rfl (by decide)
                  refine ziinc3 (n' := 1) (a' := 1) (b' := 6) (lv' := fun v9 => [(4, .int v9), (0, .ref o), (1, .null), (2, .int q_1), (3, .int x_3)]) hx hb dX9_keepWorks_166 hl (k := 4) rfl (by decide) (fun _ => rfl) (zaddK (i := x_4.toInt) (j := 1) rfl (by decide) i7.1 n12 (Int.le_refl _) (Int.le_refl _) (by decide)) (fun x_92 ls hx_92 hl => ?_)
                  refine lv_goto (tgt := 10) hx hb dX9_keepWorks_169 (by decide) ?_
                  have hl := lv_sub (l' := [(0, .ref o), (1, .null), (2, .int q_1), (3, .int x_3), (4, .int x_92)]) hl [1, 2, 3, 4, 0] rfl
                  have hP : va_P g.1 vwCl (List.flatten [bTown g o a pe wo tx x_5 jo tr dy sd f_6]) H := hP
                  have hD : va_D A (List.flatten [bTown g o a pe wo tx x_5 jo tr dy sd f_6]) := hD
                  exact ih10_9 x_3 x_92 x_5 f_6 ⟨(Int.le_trans (by decide) hx_92.2.1), hx_92.2.2⟩ rf_6 H _ ls (zmK hx_92.1 (by decide) n12 (by decide) hk10_9)  hP hD hS (lv_sub hl [0, 1, 2, 3, 4] rfl)
                · skip
                  have c93 : x_90.toInt = 1 := zeq cb9 rfl (by decide)
                  have n94 : 1 ≤ x_90.toInt := Int.le_trans (Int.le_refl _) (Int.le_of_eq c93.symm)
                  have n95 : x_90.toInt ≤ 1 := Int.le_trans (Int.le_of_eq c93) (Int.le_refl _)
                  refine lv_aload_n hx hb dX9_keepWorks_144 rfl (lv_at hl 0 rfl) ?_
                  refine lv_sipush (v := 9999) hx hb dX9_keepWorks_145 (by decide) ?_
                  refine lv_aload_n hx hb dX9_keepWorks_148 rfl (lv_at hl 0 rfl) ?_
                  refine va_get (D := g.1) (ci := 7) (v := .int x_5) (C := RX9) (T := TX9) (N := 19) hx hb hts izRX9 hown hK hP 0 rfl rfl 3 (by decide) (hts _ k4) (fun _ h9 => h9) rfl dX9_keepWorks_149 ?_
                  refine lv_aload_n hx hb dX9_keepWorks_152 rfl (lv_at hl 0 rfl) ?_
                  refine va_get (D := g.1) (ci := 7) (v := .ref (a 8)) (C := RX9) (T := TX9) (N := 19) hx hb hts izRX9 hown hK hP 0 rfl rfl 16 (by decide) (hts _ k18) (fun _ h9 => h9) rfl dX9_keepWorks_153 ?_
                  refine lv_iload hx hb dX9_keepWorks_156 (lv_at hl 4 rfl) ?_
                  refine va_iald hx hb hK hP 9 0 rfl rfl (zinK (a := 0) (b := 5) i7.1 n12 (by decide)) dX9_keepWorks_158 ?_
                  refine zg (fun x_96 => ?_)
                  refine lv_iadd hx hb dX9_keepWorks_159 ?_
                  refine zg (fun x_97 => ?_)
                  refine va_mmin hx hb (by rw [hml]; exact hl.1.symm) hown (hts _ k40) (hts _ k41) (hts _ k42) (hts _ k43) (Nat.le_of_ble_eq_true rfl) (Nat.le_of_ble_eq_true rfl) (Nat.le_of_ble_eq_true rfl) (Nat.le_of_ble_eq_true rfl) dX9_keepWorks_160 ?_
                  refine zgmn (i := 9999) (j := x_97.toInt) (by decide) rfl (fun x_98 hx_98 => ?_)
                  refine va_put (D := g.1) (ci := 7) (v := .int x_98) (ty := .int) (C := RX9) (T := TX9) (N := 19) hx hb hts izRX9 tyX9 tyX9_ok nmX9 hown hK hP hD hS 0 rfl rfl 3 (by decide) (hts _ k4) (fun _ h9 => h9) rfl (by decide +kernel) rfl rfl (Nat.le_of_ble_eq_true rfl) dX9_keepWorks_163 (fun H locs hP hD hS => ?_)
                  have hP : va_P g.1 vwCl (List.flatten [bTown g o a pe wo tx x_98 jo tr dy sd f_6]) H := hP
                  have hD : va_D A (List.flatten [bTown g o a pe wo tx x_98 jo tr dy sd f_6]) := hD
                  refine ziinc3 (n' := 1) (a' := 1) (b' := 6) (lv' := fun v9 => [(4, .int v9), (0, .ref o), (1, .null), (2, .int q_1), (3, .int x_3)]) hx hb dX9_keepWorks_166 hl (k := 4) rfl (by decide) (fun _ => rfl) (zaddK (i := x_4.toInt) (j := 1) rfl (by decide) i7.1 n12 (Int.le_refl _) (Int.le_refl _) (by decide)) (fun x_99 ls hx_99 hl => ?_)
                  refine lv_goto (tgt := 10) hx hb dX9_keepWorks_169 (by decide) ?_
                  have hl := lv_sub (l' := [(0, .ref o), (1, .null), (2, .int q_1), (3, .int x_3), (4, .int x_99)]) hl [1, 2, 3, 4, 0] rfl
                  have hP : va_P g.1 vwCl (List.flatten [bTown g o a pe wo tx x_98 jo tr dy sd f_6]) H := hP
                  have hD : va_D A (List.flatten [bTown g o a pe wo tx x_98 jo tr dy sd f_6]) := hD
                  exact ih10_9 x_3 x_99 x_98 f_6 ⟨(Int.le_trans (by decide) hx_99.2.1), hx_99.2.2⟩ rf_6 H _ ls (zmK hx_99.1 (by decide) n12 (by decide) hk10_9)  hP hD hS (lv_sub hl [0, 1, 2, 3, 4] rfl)
              · skip
                have c100 : x_88.toInt = 1 := zeq cb9 rfl (by decide)
                have n101 : 1 ≤ x_88.toInt := Int.le_trans (Int.le_refl _) (Int.le_of_eq c100.symm)
                have n102 : x_88.toInt ≤ 1 := Int.le_trans (Int.le_of_eq c100) (Int.le_refl _)
                refine lv_iload_n hx hb dX9_keepWorks_100 rfl (lv_at hl 2 rfl) ?_
                refine lv_aload_n hx hb dX9_keepWorks_101 rfl (lv_at hl 0 rfl) ?_
                refine va_get (D := g.1) (ci := 7) (v := .ref (a 7)) (C := RX9) (T := TX9) (N := 19) hx hb hts izRX9 hown hK hP 0 rfl rfl 15 (by decide) (hts _ k17) (fun _ h9 => h9) rfl dX9_keepWorks_102 ?_
                refine lv_iload hx hb dX9_keepWorks_105 (lv_at hl 4 rfl) ?_
                refine va_iald hx hb hK hP 8 0 rfl rfl (zinK (a := 0) (b := 5) i7.1 n12 (by decide)) dX9_keepWorks_107 ?_
                refine zg (fun x_103 => ?_)
                refine lv_icmp_ge (tgt := 133) hx hb dX9_keepWorks_108 (by decide) (fun cb9 => ?_) (fun cb9 => ?_)
                · skip
                  have c104 : x_103.toInt ≤ q_1.toInt := zle cb9 rfl rfl
                  refine lv_aload_n hx hb dX9_keepWorks_133 rfl (lv_at hl 0 rfl) ?_
                  refine va_get (D := g.1) (ci := 7) (v := .ref (a 9)) (C := RX9) (T := TX9) (N := 19) hx hb hts izRX9 hown hK hP 0 rfl rfl 17 (by decide) (hts _ k19) (fun _ h9 => h9) rfl dX9_keepWorks_134 ?_
                  refine lv_iload hx hb dX9_keepWorks_137 (lv_at hl 4 rfl) ?_
                  refine va_iald hx hb hK hP 10 0 rfl rfl (zinK (a := 0) (b := 5) i7.1 n12 (by decide)) dX9_keepWorks_139 ?_
                  refine zg (fun x_105 => ?_)
                  refine lv_iconst (v := 1) hx hb dX9_keepWorks_140 (by decide) ?_
                  refine lv_icmp_ne (tgt := 166) hx hb dX9_keepWorks_141 (by decide) (fun cb9 => ?_) (fun cb9 => ?_)
                  · skip
                    have c106 : ¬ x_105.toInt = 1 := zne cb9 rfl (by decide)
                    refine ziinc3 (n' := 1) (a' := 1) (b' := 6) (lv' := fun v9 => [(4, .int v9), (0, .ref o), (1, .null), (2, .int q_1), (3, .int x_3)]) hx hb dX9_keepWorks_166 hl (k := 4) rfl (by decide) (fun _ => rfl) (zaddK (i := x_4.toInt) (j := 1) rfl (by decide) i7.1 n12 (Int.le_refl _) (Int.le_refl _) (by decide)) (fun x_107 ls hx_107 hl => ?_)
                    refine lv_goto (tgt := 10) hx hb dX9_keepWorks_169 (by decide) ?_
                    have hl := lv_sub (l' := [(0, .ref o), (1, .null), (2, .int q_1), (3, .int x_3), (4, .int x_107)]) hl [1, 2, 3, 4, 0] rfl
                    have hP : va_P g.1 vwCl (List.flatten [bTown g o a pe wo tx x_5 jo tr dy sd f_6]) H := hP
                    have hD : va_D A (List.flatten [bTown g o a pe wo tx x_5 jo tr dy sd f_6]) := hD
                    exact ih10_9 x_3 x_107 x_5 f_6 ⟨(Int.le_trans (by decide) hx_107.2.1), hx_107.2.2⟩ rf_6 H _ ls (zmK hx_107.1 (by decide) n12 (by decide) hk10_9)  hP hD hS (lv_sub hl [0, 1, 2, 3, 4] rfl)
                  · skip
                    have c108 : x_105.toInt = 1 := zeq cb9 rfl (by decide)
                    have n109 : 1 ≤ x_105.toInt := Int.le_trans (Int.le_refl _) (Int.le_of_eq c108.symm)
                    have n110 : x_105.toInt ≤ 1 := Int.le_trans (Int.le_of_eq c108) (Int.le_refl _)
                    refine lv_aload_n hx hb dX9_keepWorks_144 rfl (lv_at hl 0 rfl) ?_
                    refine lv_sipush (v := 9999) hx hb dX9_keepWorks_145 (by decide) ?_
                    refine lv_aload_n hx hb dX9_keepWorks_148 rfl (lv_at hl 0 rfl) ?_
                    refine va_get (D := g.1) (ci := 7) (v := .int x_5) (C := RX9) (T := TX9) (N := 19) hx hb hts izRX9 hown hK hP 0 rfl rfl 3 (by decide) (hts _ k4) (fun _ h9 => h9) rfl dX9_keepWorks_149 ?_
                    refine lv_aload_n hx hb dX9_keepWorks_152 rfl (lv_at hl 0 rfl) ?_
                    refine va_get (D := g.1) (ci := 7) (v := .ref (a 8)) (C := RX9) (T := TX9) (N := 19) hx hb hts izRX9 hown hK hP 0 rfl rfl 16 (by decide) (hts _ k18) (fun _ h9 => h9) rfl dX9_keepWorks_153 ?_
                    refine lv_iload hx hb dX9_keepWorks_156 (lv_at hl 4 rfl) ?_
                    refine va_iald hx hb hK hP 9 0 rfl rfl (zinK (a := 0) (b := 5) i7.1 n12 (by decide)) dX9_keepWorks_158 ?_
                    refine zg (fun x_111 => ?_)
                    refine lv_iadd hx hb dX9_keepWorks_159 ?_
                    refine zg (fun x_112 => ?_)
                    refine va_mmin hx hb (by rw [hml]; exact hl.1.symm) hown (hts _ k40) (hts _ k41) (hts _ k42) (hts _ k43) (Nat.le_of_ble_eq_true rfl) (Nat.le_of_ble_eq_true rfl) (Nat.le_of_ble_eq_true rfl) (Nat.le_of_ble_eq_true rfl) dX9_keepWorks_160 ?_
                    refine zgmn (i := 9999) (j := x_112.toInt) (by decide) rfl (fun x_113 hx_113 => ?_)
                    refine va_put (D := g.1) (ci := 7) (v := .int x_113) (ty := .int) (C := RX9) (T := TX9) (N := 19) hx hb hts izRX9 tyX9 tyX9_ok nmX9 hown hK hP hD hS 0 rfl rfl 3 (by decide) (hts _ k4) (fun _ h9 => h9) rfl (by decide +kernel) rfl rfl (Nat.le_of_ble_eq_true rfl) dX9_keepWorks_163 (fun H locs hP hD hS => ?_)
                    have hP : va_P g.1 vwCl (List.flatten [bTown g o a pe wo tx x_113 jo tr dy sd f_6]) H := hP
                    have hD : va_D A (List.flatten [bTown g o a pe wo tx x_113 jo tr dy sd f_6]) := hD
                    refine ziinc3 (n' := 1) (a' := 1) (b' := 6) (lv' := fun v9 => [(4, .int v9), (0, .ref o), (1, .null), (2, .int q_1), (3, .int x_3)]) hx hb dX9_keepWorks_166 hl (k := 4) rfl (by decide) (fun _ => rfl) (zaddK (i := x_4.toInt) (j := 1) rfl (by decide) i7.1 n12 (Int.le_refl _) (Int.le_refl _) (by decide)) (fun x_114 ls hx_114 hl => ?_)
                    refine lv_goto (tgt := 10) hx hb dX9_keepWorks_169 (by decide) ?_
                    have hl := lv_sub (l' := [(0, .ref o), (1, .null), (2, .int q_1), (3, .int x_3), (4, .int x_114)]) hl [1, 2, 3, 4, 0] rfl
                    have hP : va_P g.1 vwCl (List.flatten [bTown g o a pe wo tx x_113 jo tr dy sd f_6]) H := hP
                    have hD : va_D A (List.flatten [bTown g o a pe wo tx x_113 jo tr dy sd f_6]) := hD
                    exact ih10_9 x_3 x_114 x_113 f_6 ⟨(Int.le_trans (by decide) hx_114.2.1), hx_114.2.2⟩ rf_6 H _ ls (zmK hx_114.1 (by decide) n12 (by decide) hk10_9)  hP hD hS (lv_sub hl [0, 1, 2, 3, 4] rfl)
                · skip
                  have c115 : q_1.toInt < x_103.toInt := zlti (Int32.not_le.mp cb9) rfl rfl
                  refine lv_aload_n hx hb dX9_keepWorks_111 rfl (lv_at hl 0 rfl) ?_
                  refine va_get (D := g.1) (ci := 7) (v := .ref (a 9)) (C := RX9) (T := TX9) (N := 19) hx hb hts izRX9 hown hK hP 0 rfl rfl 17 (by decide) (hts _ k19) (fun _ h9 => h9) rfl dX9_keepWorks_112 ?_
                  refine lv_iload hx hb dX9_keepWorks_115 (lv_at hl 4 rfl) ?_
                  refine lv_iconst (v := 2) hx hb dX9_keepWorks_117 (by decide) ?_
                  refine va_iast hx hb hK hP hD hS 10 0 rfl rfl (zinK (a := 0) (b := 5) i7.1 n12 (by decide)) dX9_keepWorks_118 (fun H locs hP hD hS => ?_)
                  obtain ⟨f116, rf116, hP, hD⟩ : ∃ f116 : Nat → Nat → Int32, zZ4 f116 ∧ va_P g.1 vwCl (List.flatten [bTown g o a pe wo tx x_5 jo tr dy sd f116]) H ∧ va_D A (List.flatten [bTown g o a pe wo tx x_5 jo tr dy sd f116]) := ⟨zu f_6 9 (upd (f_6 9) x_4.toNatClampNeg 2), (zZ4_u rf_6 (by decide)), hP, hD⟩
                  refine ziincG (lv' := fun v9 => [(3, .int v9), (0, .ref o), (1, .null), (2, .int q_1), (4, .int x_4)]) hx hb dX9_keepWorks_119 hl (k := 3) rfl (by decide) (fun _ => rfl) (fun x_117 ls hl => ?_)
                  refine lv_aload_n hx hb dX9_keepWorks_122 rfl (lv_at hl 1 rfl) ?_
                  refine lv_aload_nN hx hb dX9_keepWorks_123 rfl (lv_at hl 2 rfl) ?_
                  refine lv_iload hx hb dX9_keepWorks_124 (lv_at hl 4 rfl) ?_
                  refine lv_iconst (v := 1) hx hb dX9_keepWorks_126 (by decide) ?_
                  refine mcallV' (g := g) (q0 := 0) (ci := 7) (As := [.null, .int x_4, .int 1]) (rest := []) St hK hT hA hP hD hS hl.1 [0] [] rfl rfl rfl (c_writeN l g o a pe wo tx x_5 jo tr dy sd f116 x_4 1 b_pe b_wo rf116) (cwV 3 hts (zgL (zl4 k125 k126 k127 k24) k124) rfl rfl rfl (by decide +kernel) ⟨Nat.le_of_ble_eq_true rfl, Nat.le_of_ble_eq_true rfl⟩) rfl rfl rfl rfl (Nat.le_of_ble_eq_true rfl) dX9_keepWorks_127 ⟨(Nat.le_of_ble_eq_true rfl), (Nat.le_of_ble_eq_true rfl)⟩ (fun _u H locs hq118 hP hD hS => ?_)
                  have hP : va_P g.1 vwCl (List.flatten [bTown g o a pe wo tx x_5 jo tr dy sd f116]) H := hP
                  have hD : va_D A (List.flatten [bTown g o a pe wo tx x_5 jo tr dy sd f116]) := hD
                  refine W.widen (k := 0) (n := 0) (Nat.le_of_ble_eq_true rfl) (Nat.le_of_ble_eq_true rfl) ?_
                  refine W.eq (g2 := F0 m 130 ls []) rfl ?_
                  refine lv_goto (tgt := 166) hx hb dX9_keepWorks_130 (by decide) ?_
                  refine ziinc3 (n' := 1) (a' := 1) (b' := 6) (lv' := fun v9 => [(4, .int v9), (3, .int x_117), (0, .ref o), (1, .null), (2, .int q_1)]) hx hb dX9_keepWorks_166 hl (k := 4) rfl (by decide) (fun _ => rfl) (zaddK (i := x_4.toInt) (j := 1) rfl (by decide) i7.1 n12 (Int.le_refl _) (Int.le_refl _) (by decide)) (fun x_119 ls hx_119 hl => ?_)
                  refine lv_goto (tgt := 10) hx hb dX9_keepWorks_169 (by decide) ?_
                  have hl := lv_sub (l' := [(0, .ref o), (1, .null), (2, .int q_1), (3, .int x_117), (4, .int x_119)]) hl [2, 3, 4, 1, 0] rfl
                  have hP : va_P g.1 vwCl (List.flatten [bTown g o a pe wo tx x_5 jo tr dy sd f116]) H := hP
                  have hD : va_D A (List.flatten [bTown g o a pe wo tx x_5 jo tr dy sd f116]) := hD
                  exact ih10_9 x_117 x_119 x_5 f116 ⟨(Int.le_trans (by decide) hx_119.2.1), hx_119.2.2⟩ rf116 H _ ls (zmK hx_119.1 (by decide) n12 (by decide) hk10_9)  hP hD hS (lv_sub hl [0, 1, 2, 3, 4] rfl)
            · skip
              have c120 : x_86.toInt ≤ x_5.toInt := zle (Int32.not_lt.mp cb9) rfl rfl
              refine lv_aload_n hx hb dX9_keepWorks_54 rfl (lv_at hl 0 rfl) ?_
              refine va_get (D := g.1) (ci := 7) (v := .ref (a 9)) (C := RX9) (T := TX9) (N := 19) hx hb hts izRX9 hown hK hP 0 rfl rfl 17 (by decide) (hts _ k19) (fun _ h9 => h9) rfl dX9_keepWorks_55 ?_
              refine lv_iload hx hb dX9_keepWorks_58 (lv_at hl 4 rfl) ?_
              refine lv_iconst (v := 1) hx hb dX9_keepWorks_60 (by decide) ?_
              refine va_iast hx hb hK hP hD hS 10 0 rfl rfl (zinK (a := 0) (b := 5) i7.1 n12 (by decide)) dX9_keepWorks_61 (fun H locs hP hD hS => ?_)
              obtain ⟨f121, rf121, hP, hD⟩ : ∃ f121 : Nat → Nat → Int32, zZ4 f121 ∧ va_P g.1 vwCl (List.flatten [bTown g o a pe wo tx x_5 jo tr dy sd f121]) H ∧ va_D A (List.flatten [bTown g o a pe wo tx x_5 jo tr dy sd f121]) := ⟨zu f_6 9 (upd (f_6 9) x_4.toNatClampNeg 1), (zZ4_u rf_6 (by decide)), hP, hD⟩
              refine lv_aload_n hx hb dX9_keepWorks_62 rfl (lv_at hl 0 rfl) ?_
              refine lv_dup hx hb dX9_keepWorks_63 rfl ?_
              refine va_get (D := g.1) (ci := 7) (v := .int x_5) (C := RX9) (T := TX9) (N := 19) hx hb hts izRX9 hown hK hP 0 rfl rfl 3 (by decide) (hts _ k4) (fun _ h9 => h9) rfl dX9_keepWorks_64 ?_
              refine lv_aload_n hx hb dX9_keepWorks_67 rfl (lv_at hl 0 rfl) ?_
              refine va_get (D := g.1) (ci := 7) (v := .ref (a 6)) (C := RX9) (T := TX9) (N := 19) hx hb hts izRX9 hown hK hP 0 rfl rfl 14 (by decide) (hts _ k16) (fun _ h9 => h9) rfl dX9_keepWorks_68 ?_
              refine lv_iload hx hb dX9_keepWorks_71 (lv_at hl 4 rfl) ?_
              refine va_iald hx hb hK hP 7 0 rfl rfl (zinK (a := 0) (b := 5) i7.1 n12 (by decide)) dX9_keepWorks_73 ?_
              refine zg (fun x_122 => ?_)
              refine lv_isub hx hb dX9_keepWorks_74 ?_
              refine zg (fun x_123 => ?_)
              refine va_put (D := g.1) (ci := 7) (v := .int x_123) (ty := .int) (C := RX9) (T := TX9) (N := 19) hx hb hts izRX9 tyX9 tyX9_ok nmX9 hown hK hP hD hS 0 rfl rfl 3 (by decide) (hts _ k4) (fun _ h9 => h9) rfl (by decide +kernel) rfl rfl (Nat.le_of_ble_eq_true rfl) dX9_keepWorks_75 (fun H locs hP hD hS => ?_)
              have hP : va_P g.1 vwCl (List.flatten [bTown g o a pe wo tx x_123 jo tr dy sd f121]) H := hP
              have hD : va_D A (List.flatten [bTown g o a pe wo tx x_123 jo tr dy sd f121]) := hD
              refine lv_aload_n hx hb dX9_keepWorks_78 rfl (lv_at hl 0 rfl) ?_
              refine lv_aload_nN hx hb dX9_keepWorks_79 rfl (lv_at hl 1 rfl) ?_
              refine lv_iload hx hb dX9_keepWorks_80 (lv_at hl 4 rfl) ?_
              refine lv_iconst (v := 0) hx hb dX9_keepWorks_82 (by decide) ?_
              refine mcallV' (g := g) (q0 := 0) (ci := 7) (As := [.null, .int x_4, .int 0]) (rest := []) St hK hT hA hP hD hS hl.1 [0] [] rfl rfl rfl (c_writeN l g o a pe wo tx x_123 jo tr dy sd f121 x_4 0 b_pe b_wo rf121) (cwV 3 hts (zgL (zl4 k125 k126 k127 k24) k124) rfl rfl rfl (by decide +kernel) ⟨Nat.le_of_ble_eq_true rfl, Nat.le_of_ble_eq_true rfl⟩) rfl rfl rfl rfl (Nat.le_of_ble_eq_true rfl) dX9_keepWorks_83 ⟨(Nat.le_of_ble_eq_true rfl), (Nat.le_of_ble_eq_true rfl)⟩ (fun _u H locs hq124 hP hD hS => ?_)
              have hP : va_P g.1 vwCl (List.flatten [bTown g o a pe wo tx x_123 jo tr dy sd f121]) H := hP
              have hD : va_D A (List.flatten [bTown g o a pe wo tx x_123 jo tr dy sd f121]) := hD
              refine W.widen (k := 0) (n := 0) (Nat.le_of_ble_eq_true rfl) (Nat.le_of_ble_eq_true rfl) ?_
              refine W.eq (g2 := F0 m 86 ls []) rfl ?_
              refine lv_goto (tgt := 166) hx hb dX9_keepWorks_86 (by decide) ?_
              refine ziinc3 (n' := 1) (a' := 1) (b' := 6) (lv' := fun v9 => [(4, .int v9), (0, .ref o), (1, .null), (2, .int q_1), (3, .int x_3)]) hx hb dX9_keepWorks_166 hl (k := 4) rfl (by decide) (fun _ => rfl) (zaddK (i := x_4.toInt) (j := 1) rfl (by decide) i7.1 n12 (Int.le_refl _) (Int.le_refl _) (by decide)) (fun x_125 ls hx_125 hl => ?_)
              refine lv_goto (tgt := 10) hx hb dX9_keepWorks_169 (by decide) ?_
              have hl := lv_sub (l' := [(0, .ref o), (1, .null), (2, .int q_1), (3, .int x_3), (4, .int x_125)]) hl [1, 2, 3, 4, 0] rfl
              have hP : va_P g.1 vwCl (List.flatten [bTown g o a pe wo tx x_123 jo tr dy sd f121]) H := hP
              have hD : va_D A (List.flatten [bTown g o a pe wo tx x_123 jo tr dy sd f121]) := hD
              exact ih10_9 x_3 x_125 x_123 f121 ⟨(Int.le_trans (by decide) hx_125.2.1), hx_125.2.2⟩ rf121 H _ ls (zmK hx_125.1 (by decide) n12 (by decide) hk10_9)  hP hD hS (lv_sub hl [0, 1, 2, 3, 4] rfl)
  have hP : va_P g.1 vwCl (List.flatten [bTown g o a pe wo tx ch jo tr dy sd f]) H := hP
  have hD : va_D A (List.flatten [bTown g o a pe wo tx ch jo tr dy sd f]) := hD
  exact LP10_8 _ 0 0 ch f (by decide) rf H _ ls (Nat.lt_succ_self _)  hP hD hS (lv_sub hl [0, 1, 2, 3, 4] rfl)
set_option maxRecDepth 100000 in
set_option maxHeartbeats 4000000 in
theorem c_comeBackN (l : Launch) (g : zG) (o : Nat) (a : Nat → Nat) (pe : Int32) (wo : Int32) (tx : Int32) (ch : Int32) (jo : Int32) (tr : Int32) (dy : Int32) (sd : Int32) (f : Nat → Nat → Int32) (tl : Int32) (b_pe : 0 ≤ pe.toInt ∧ pe.toInt ≤ 8) (b_wo : 0 ≤ wo.toInt ∧ wo.toInt ≤ 6) (rf : zZ4 f) : zM' g l yX9_comeBack (Cond.code yX9_comeBack cX9_comeBack 5 none :: zB) ({ frames := 4, cells := 0, slots := 0, locals := 80 } : Room) [.ref o, .int tl, .null] [bTown g o a pe wo tx ch jo tr dy sd f] (fun u : Int32 × (Nat → Nat → Int32) => (fun (sd2 : Int32) (f2 : Nat → Nat → Int32) => none) (u.1) (u.2)) (fun u : Int32 × (Nat → Nat → Int32) => (fun (sd2 : Int32) (f2 : Nat → Nat → Int32) => (zZ4 f2)) (u.1) (u.2)) (fun u : Int32 × (Nat → Nat → Int32) => (fun (sd2 : Int32) (f2 : Nat → Nat → Int32) => [bTown g o a pe wo tx ch jo tr dy sd2 f2]) (u.1) (u.2)) := by
  refine zM'.of (cc := cX9_comeBack) (maxL := 5) (rt := none) (by decide) rfl (Nat.le_of_ble_eq_true rfl) ?_
  intro p e s m args below meth c A ls St hr hlocks hin hK hT hA hP hD hS hl
  obtain ⟨hx, hb, hml, hown, hts⟩ := id St
  have hl : lv_has ls 5 [(0, .ref o), (1, .int tl), (2, .null)] := hl
  refine lv_iconst (v := 0) hx hb dX9_comeBack_0 (by decide) ?_
  refine lv_istore_n (lv' := [(3, .int 0), (0, .ref o), (1, .int tl), (2, .null)]) hx hb dX9_comeBack_1 rfl hl (by decide) rfl (fun ls hl => ?_)
  have hl := lv_sub (l' := [(0, .ref o), (1, .int tl), (2, .null), (3, .int 0)]) hl [1, 2, 3, 0] rfl
  have LP2_5 : ∀ (kf : Nat) (x_1 : Int32) (x_2 : Int32) (f_3 : Nat → Nat → Int32), (0 ≤ x_1.toInt ∧ x_1.toInt ≤ 8) → (zZ4 f_3) → ∀ (H : Heap) (locs : List Loc) (ls : Array Slot), ((9 - x_1.toInt).toNat) < kf → va_P g.1 vwCl (List.flatten [bTown g o a pe wo tx ch jo tr dy x_2 f_3]) H → va_D A (List.flatten [bTown g o a pe wo tx ch jo tr dy x_2 f_3]) → va_S A s.heap H locs → lv_has ls 5 [(0, .ref o), (1, .int tl), (2, .null), (3, .int x_1)] → W p l e ({ frames := 4, cells := 0, slots := 0, locals := 80 } : Room) s m args below meth c H locs (0) (0) (zF g (fun u : Int32 × (Nat → Nat → Int32) => (fun (sd2 : Int32) (f2 : Nat → Nat → Int32) => none) (u.1) (u.2)) (fun u : Int32 × (Nat → Nat → Int32) => (fun (sd2 : Int32) (f2 : Nat → Nat → Int32) => (zZ4 f2)) (u.1) (u.2)) (fun u : Int32 × (Nat → Nat → Int32) => (fun (sd2 : Int32) (f2 : Nat → Nat → Int32) => [bTown g o a pe wo tx ch jo tr dy sd2 f2]) (u.1) (u.2)) ({ frames := 4, cells := 0, slots := 0, locals := 80 } : Room) below args s A) (F0 m 2 ls []) := by
    intro kf
    induction kf with
    | zero => intro x_1 x_2 f_3 i4 rf_3 H locs ls hk; exact absurd hk (Nat.not_lt_zero _)
    | succ kf ih2_6 =>
      intro x_1 x_2 f_3 i4 rf_3 H locs ls hk2_6 hP hD hS hl
      refine lv_iload_n hx hb dX9_comeBack_2 rfl (lv_at hl 3 rfl) ?_
      refine lv_aload_n hx hb dX9_comeBack_3 rfl (lv_at hl 0 rfl) ?_
      refine va_get (D := g.1) (ci := 7) (v := .int pe) (C := RX9) (T := TX9) (N := 19) hx hb hts izRX9 hown hK hP 0 rfl rfl 0 (by decide) (hts _ k31) (fun _ h9 => h9) rfl dX9_comeBack_4 ?_
      refine lv_icmp_ge (tgt := 92) hx hb dX9_comeBack_7 (by decide) (fun cb9 => ?_) (fun cb9 => ?_)
      · skip
        have c7 : pe.toInt ≤ x_1.toInt := zle cb9 rfl rfl
        have hP : va_P g.1 vwCl (List.flatten [bTown g o a pe wo tx ch jo tr dy x_2 f_3]) H := hP
        have hD : va_D A (List.flatten [bTown g o a pe wo tx ch jo tr dy x_2 f_3]) := hD
        exact mret_v hx hb hr hlocks hS (Nat.le_of_ble_eq_true rfl) (Nat.le_of_ble_eq_true rfl) dX9_comeBack_92 (x_2, f_3) rfl (show (zZ4 f_3) from rf_3) hP hD
      · skip
        have c8 : x_1.toInt < pe.toInt := zlti (Int32.not_le.mp cb9) rfl rfl
        have n9 : x_1.toInt ≤ 7 := zL1 (b := 8) c8 b_pe.2 (by decide)
        have n10 : 1 ≤ pe.toInt := zL2 (a := 0) c8 i4.1 (by decide)
        refine lv_aload_n hx hb dX9_comeBack_10 rfl (lv_at hl 0 rfl) ?_
        refine lv_iload_n hx hb dX9_comeBack_11 rfl (lv_at hl 3 rfl) ?_
        refine mcallV' (g := g) (q0 := 0) (ci := 7) (As := [.int x_1]) (rest := []) St hK hT hA hP hD hS hl.1 [0] [] rfl rfl rfl (c_isHere l g o a pe wo tx ch jo tr dy x_2 f_3 x_1 (⟨i4.1, n9⟩)) (cwV 1 hts (zgL (zl4 k53 k54 k55 k24) k51) rfl rfl rfl (by decide +kernel) ⟨Nat.le_of_ble_eq_true rfl, Nat.le_of_ble_eq_true rfl⟩) rfl rfl rfl rfl (Nat.le_of_ble_eq_true rfl) dX9_comeBack_12 ⟨(Nat.le_of_ble_eq_true rfl), (Nat.le_of_ble_eq_true rfl)⟩ (fun q_11 H locs hq12 hP hD hS => ?_)
        replace hq12 : (q_11 = 0 ∨ q_11 = 1) := hq12
        have hP : va_P g.1 vwCl (List.flatten [bTown g o a pe wo tx ch jo tr dy x_2 f_3]) H := hP
        have hD : va_D A (List.flatten [bTown g o a pe wo tx ch jo tr dy x_2 f_3]) := hD
        refine W.widen (k := 0) (n := 0) (Nat.le_of_ble_eq_true rfl) (Nat.le_of_ble_eq_true rfl) ?_
        refine W.eq (g2 := F0 m 15 ls [.int q_11]) rfl ?_
        rcases hq12 with rfl | rfl
        · skip
          refine lv_if_ne (tgt := 86) hx hb dX9_comeBack_15 (by decide) (fun c13 => absurd (by decide) c13) (fun _ => ?_)
          refine lv_aload_n hx hb dX9_comeBack_18 rfl (lv_at hl 0 rfl) ?_
          refine va_get (D := g.1) (ci := 7) (v := .ref (a 3)) (C := RX9) (T := TX9) (N := 19) hx hb hts izRX9 hown hK hP 0 rfl rfl 11 (by decide) (hts _ k12) (fun _ h9 => h9) rfl dX9_comeBack_19 ?_
          refine lv_iload_n hx hb dX9_comeBack_22 rfl (lv_at hl 3 rfl) ?_
          refine va_iald hx hb hK hP 4 0 rfl rfl (zinK (a := 0) (b := 7) i4.1 n9 (by decide)) dX9_comeBack_23 ?_
          refine zg (fun x_14 => ?_)
          refine lv_aload_n hx hb dX9_comeBack_24 rfl (lv_at hl 0 rfl) ?_
          refine va_get (D := g.1) (ci := 7) (v := .int dy) (C := RX9) (T := TX9) (N := 19) hx hb hts izRX9 hown hK hP 0 rfl rfl 6 (by decide) (hts _ k34) (fun _ h9 => h9) rfl dX9_comeBack_25 ?_
          refine lv_icmp_gt (tgt := 86) hx hb dX9_comeBack_28 (by decide) (fun cb9 => ?_) (fun cb9 => ?_)
          · skip
            have c15 : dy.toInt < x_14.toInt := zlti cb9 rfl rfl
            refine ziinc3 (n' := 1) (a' := 1) (b' := 8) (lv' := fun v9 => [(3, .int v9), (0, .ref o), (1, .int tl), (2, .null)]) hx hb dX9_comeBack_86 hl (k := 3) rfl (by decide) (fun _ => rfl) (zaddK (i := x_1.toInt) (j := 1) rfl (by decide) i4.1 n9 (Int.le_refl _) (Int.le_refl _) (by decide)) (fun x_16 ls hx_16 hl => ?_)
            refine lv_goto (tgt := 2) hx hb dX9_comeBack_89 (by decide) ?_
            have hl := lv_sub (l' := [(0, .ref o), (1, .int tl), (2, .null), (3, .int x_16)]) hl [1, 2, 3, 0] rfl
            have hP : va_P g.1 vwCl (List.flatten [bTown g o a pe wo tx ch jo tr dy x_2 f_3]) H := hP
            have hD : va_D A (List.flatten [bTown g o a pe wo tx ch jo tr dy x_2 f_3]) := hD
            exact ih2_6 x_16 x_2 f_3 ⟨(Int.le_trans (by decide) hx_16.2.1), hx_16.2.2⟩ rf_3 H _ ls (zmK hx_16.1 (by decide) n9 (by decide) hk2_6)  hP hD hS (lv_sub hl [0, 1, 2, 3] rfl)
          · skip
            have c17 : x_14.toInt ≤ dy.toInt := zle (Int32.not_lt.mp cb9) rfl rfl
            refine lv_aload_n hx hb dX9_comeBack_31 rfl (lv_at hl 0 rfl) ?_
            refine va_get (D := g.1) (ci := 7) (v := .ref (a 3)) (C := RX9) (T := TX9) (N := 19) hx hb hts izRX9 hown hK hP 0 rfl rfl 11 (by decide) (hts _ k12) (fun _ h9 => h9) rfl dX9_comeBack_32 ?_
            refine lv_iload_n hx hb dX9_comeBack_35 rfl (lv_at hl 3 rfl) ?_
            refine lv_iconst (v := (-1)) hx hb dX9_comeBack_36 (by decide) ?_
            refine va_iast hx hb hK hP hD hS 4 0 rfl rfl (zinK (a := 0) (b := 7) i4.1 n9 (by decide)) dX9_comeBack_37 (fun H locs hP hD hS => ?_)
            obtain ⟨f18, rf18, hP, hD⟩ : ∃ f18 : Nat → Nat → Int32, zZ4 f18 ∧ va_P g.1 vwCl (List.flatten [bTown g o a pe wo tx ch jo tr dy x_2 f18]) H ∧ va_D A (List.flatten [bTown g o a pe wo tx ch jo tr dy x_2 f18]) := ⟨zu f_3 3 (upd (f_3 3) x_1.toNatClampNeg (-1)), (zZ4_u rf_3 (by decide)), hP, hD⟩
            refine lv_iload_n hx hb dX9_comeBack_38 rfl (lv_at hl 1 rfl) ?_
            refine lv_if_eq (tgt := 86) hx hb dX9_comeBack_39 (by decide) (fun cb9 => ?_) (fun cb9 => ?_)
            · skip
              have c19 : tl.toInt = 0 := zeq cb9 rfl (by decide)
              have n20 : 0 ≤ tl.toInt := Int.le_trans (Int.le_refl _) (Int.le_of_eq c19.symm)
              have n21 : tl.toInt ≤ 0 := Int.le_trans (Int.le_of_eq c19) (Int.le_refl _)
              refine ziinc3 (n' := 1) (a' := 1) (b' := 8) (lv' := fun v9 => [(3, .int v9), (0, .ref o), (1, .int tl), (2, .null)]) hx hb dX9_comeBack_86 hl (k := 3) rfl (by decide) (fun _ => rfl) (zaddK (i := x_1.toInt) (j := 1) rfl (by decide) i4.1 n9 (Int.le_refl _) (Int.le_refl _) (by decide)) (fun x_22 ls hx_22 hl => ?_)
              refine lv_goto (tgt := 2) hx hb dX9_comeBack_89 (by decide) ?_
              have hl := lv_sub (l' := [(0, .ref o), (1, .int tl), (2, .null), (3, .int x_22)]) hl [1, 2, 3, 0] rfl
              have hP : va_P g.1 vwCl (List.flatten [bTown g o a pe wo tx ch jo tr dy x_2 f18]) H := hP
              have hD : va_D A (List.flatten [bTown g o a pe wo tx ch jo tr dy x_2 f18]) := hD
              exact ih2_6 x_22 x_2 f18 ⟨(Int.le_trans (by decide) hx_22.2.1), hx_22.2.2⟩ rf18 H _ ls (zmK hx_22.1 (by decide) n9 (by decide) hk2_6)  hP hD hS (lv_sub hl [0, 1, 2, 3] rfl)
            · skip
              have c23 : ¬ tl.toInt = 0 := zne cb9 rfl (by decide)
              refine lv_aload_n hx hb dX9_comeBack_42 rfl (lv_at hl 0 rfl) ?_
              refine mcallV' (g := g) (q0 := 0) (ci := 7) (As := []) (rest := []) St hK hT hA hP hD hS hl.1 [0] [] rfl rfl rfl (c_draw l g o a pe wo tx ch jo tr dy x_2 f18 ) (cwV 0 hts (zgL (zl4 k135 k136 k137 k24) k129) rfl rfl rfl (by decide +kernel) ⟨Nat.le_of_ble_eq_true rfl, Nat.le_of_ble_eq_true rfl⟩) rfl rfl rfl rfl (Nat.le_of_ble_eq_true rfl) dX9_comeBack_43 ⟨(Nat.le_of_ble_eq_true rfl), (Nat.le_of_ble_eq_true rfl)⟩ (fun u_ H locs hq26 hP hD hS => ?_)
              obtain ⟨sd2_24, q_25⟩ := u_
              have hP : va_P g.1 vwCl (List.flatten [bTown g o a pe wo tx ch jo tr dy sd2_24 f18]) H := hP
              have hD : va_D A (List.flatten [bTown g o a pe wo tx ch jo tr dy sd2_24 f18]) := hD
              refine W.widen (k := 0) (n := 0) (Nat.le_of_ble_eq_true rfl) (Nat.le_of_ble_eq_true rfl) ?_
              refine W.eq (g2 := F0 m 46 ls [.int q_25]) rfl ?_
              refine lv_bipush (v := 100) hx hb dX9_comeBack_46 (by decide) ?_
              refine lv_irem hx hb dX9_comeBack_48 (by decide) ?_
              refine zg (fun x_27 => ?_)
              refine lv_aload_n hx hb dX9_comeBack_49 rfl (lv_at hl 0 rfl) ?_
              refine va_get (D := g.1) (ci := 7) (v := .int tr) (C := RX9) (T := TX9) (N := 19) hx hb hts izRX9 hown hK hP 0 rfl rfl 5 (by decide) (hts _ k6) (fun _ h9 => h9) rfl dX9_comeBack_50 ?_
              refine lv_icmp_ge (tgt := 60) hx hb dX9_comeBack_53 (by decide) (fun cb9 => ?_) (fun cb9 => ?_)
              · skip
                have c28 : tr.toInt ≤ x_27.toInt := zle cb9 rfl rfl
                refine lv_iconst (v := 0) hx hb dX9_comeBack_60 (by decide) ?_
                refine lv_istore (lv' := [(4, .int 0), (0, .ref o), (1, .int tl), (2, .null), (3, .int x_1)]) hx hb dX9_comeBack_61 hl (by decide) rfl (fun ls hl => ?_)
                refine lv_aload_n hx hb dX9_comeBack_63 rfl (lv_at hl 1 rfl) ?_
                refine lv_iload_n hx hb dX9_comeBack_64 rfl (lv_at hl 4 rfl) ?_
                refine lv_iload hx hb dX9_comeBack_65 (lv_at hl 0 rfl) ?_
                refine mcallV' (g := g) (q0 := 0) (ci := 7) (As := [.int x_1, .int 0]) (rest := []) St hK hT hA hP hD hS hl.1 [0] [] rfl rfl rfl (c_spread l g o a pe wo tx ch jo tr dy sd2_24 f18 x_1 0 b_pe b_wo rf18 (⟨i4.1, n9⟩)) (cwV 2 hts (zgL (zl4 k138 k139 k140 k24) k134) rfl rfl rfl (by decide +kernel) ⟨Nat.le_of_ble_eq_true rfl, Nat.le_of_ble_eq_true rfl⟩) rfl rfl rfl rfl (Nat.le_of_ble_eq_true rfl) dX9_comeBack_67 ⟨(Nat.le_of_ble_eq_true rfl), (Nat.le_of_ble_eq_true rfl)⟩ (fun f2_29 H locs hq30 hP hD hS => ?_)
                replace hq30 : (zZ4 f2_29) := hq30
                have hP : va_P g.1 vwCl (List.flatten [bTown g o a pe wo tx ch jo tr dy sd2_24 f2_29]) H := hP
                have hD : va_D A (List.flatten [bTown g o a pe wo tx ch jo tr dy sd2_24 f2_29]) := hD
                refine W.widen (k := 0) (n := 0) (Nat.le_of_ble_eq_true rfl) (Nat.le_of_ble_eq_true rfl) ?_
                refine W.eq (g2 := F0 m 70 ls []) rfl ?_
                have rf2_29 := hq30; clear hq30
                refine lv_aload_n hx hb dX9_comeBack_70 rfl (lv_at hl 1 rfl) ?_
                refine lv_aload_nN hx hb dX9_comeBack_71 rfl (lv_at hl 3 rfl) ?_
                refine lv_iload_n hx hb dX9_comeBack_72 rfl (lv_at hl 4 rfl) ?_
                refine lv_iload hx hb dX9_comeBack_73 (lv_at hl 0 rfl) ?_
                refine lv_if_eq (tgt := 82) hx hb dX9_comeBack_75 (by decide) (fun _ => ?_) (fun c31 => absurd (by decide) c31)
                refine lv_iconst (v := 3) hx hb dX9_comeBack_82 (by decide) ?_
                refine mcallV' (g := g) (q0 := 0) (ci := 7) (As := [.null, .int x_1, .int 3]) (rest := []) St hK hT hA hP hD hS hl.1 [0] [] rfl rfl rfl (c_writeN l g o a pe wo tx ch jo tr dy sd2_24 f2_29 x_1 3 b_pe b_wo rf2_29) (cwV 3 hts (zgL (zl4 k125 k126 k127 k24) k124) rfl rfl rfl (by decide +kernel) ⟨Nat.le_of_ble_eq_true rfl, Nat.le_of_ble_eq_true rfl⟩) rfl rfl rfl rfl (Nat.le_of_ble_eq_true rfl) dX9_comeBack_83 ⟨(Nat.le_of_ble_eq_true rfl), (Nat.le_of_ble_eq_true rfl)⟩ (fun _u H locs hq32 hP hD hS => ?_)
                have hP : va_P g.1 vwCl (List.flatten [bTown g o a pe wo tx ch jo tr dy sd2_24 f2_29]) H := hP
                have hD : va_D A (List.flatten [bTown g o a pe wo tx ch jo tr dy sd2_24 f2_29]) := hD
                refine W.widen (k := 0) (n := 0) (Nat.le_of_ble_eq_true rfl) (Nat.le_of_ble_eq_true rfl) ?_
                refine W.eq (g2 := F0 m 86 ls []) rfl ?_
                refine ziinc3 (n' := 1) (a' := 1) (b' := 8) (lv' := fun v9 => [(3, .int v9), (4, .int 0), (0, .ref o), (1, .int tl), (2, .null)]) hx hb dX9_comeBack_86 hl (k := 4) rfl (by decide) (fun _ => rfl) (zaddK (i := x_1.toInt) (j := 1) rfl (by decide) i4.1 n9 (Int.le_refl _) (Int.le_refl _) (by decide)) (fun x_33 ls hx_33 hl => ?_)
                refine lv_goto (tgt := 2) hx hb dX9_comeBack_89 (by decide) ?_
                have hl := lv_sub (l' := [(0, .ref o), (1, .int tl), (2, .null), (3, .int x_33), (4, .int 0)]) hl [2, 3, 4, 0, 1] rfl
                have hP : va_P g.1 vwCl (List.flatten [bTown g o a pe wo tx ch jo tr dy sd2_24 f2_29]) H := hP
                have hD : va_D A (List.flatten [bTown g o a pe wo tx ch jo tr dy sd2_24 f2_29]) := hD
                exact ih2_6 x_33 sd2_24 f2_29 ⟨(Int.le_trans (by decide) hx_33.2.1), hx_33.2.2⟩ rf2_29 H _ ls (zmK hx_33.1 (by decide) n9 (by decide) hk2_6)  hP hD hS (lv_sub hl [0, 1, 2, 3] rfl)
              · skip
                have c34 : x_27.toInt < tr.toInt := zlti (Int32.not_le.mp cb9) rfl rfl
                refine lv_iconst (v := 1) hx hb dX9_comeBack_56 (by decide) ?_
                refine lv_goto (tgt := 61) hx hb dX9_comeBack_57 (by decide) ?_
                refine lv_istore (lv' := [(4, .int 1), (0, .ref o), (1, .int tl), (2, .null), (3, .int x_1)]) hx hb dX9_comeBack_61 hl (by decide) rfl (fun ls hl => ?_)
                refine lv_aload_n hx hb dX9_comeBack_63 rfl (lv_at hl 1 rfl) ?_
                refine lv_iload_n hx hb dX9_comeBack_64 rfl (lv_at hl 4 rfl) ?_
                refine lv_iload hx hb dX9_comeBack_65 (lv_at hl 0 rfl) ?_
                refine mcallV' (g := g) (q0 := 0) (ci := 7) (As := [.int x_1, .int 1]) (rest := []) St hK hT hA hP hD hS hl.1 [0] [] rfl rfl rfl (c_spread l g o a pe wo tx ch jo tr dy sd2_24 f18 x_1 1 b_pe b_wo rf18 (⟨i4.1, n9⟩)) (cwV 2 hts (zgL (zl4 k138 k139 k140 k24) k134) rfl rfl rfl (by decide +kernel) ⟨Nat.le_of_ble_eq_true rfl, Nat.le_of_ble_eq_true rfl⟩) rfl rfl rfl rfl (Nat.le_of_ble_eq_true rfl) dX9_comeBack_67 ⟨(Nat.le_of_ble_eq_true rfl), (Nat.le_of_ble_eq_true rfl)⟩ (fun f2_35 H locs hq36 hP hD hS => ?_)
                replace hq36 : (zZ4 f2_35) := hq36
                have hP : va_P g.1 vwCl (List.flatten [bTown g o a pe wo tx ch jo tr dy sd2_24 f2_35]) H := hP
                have hD : va_D A (List.flatten [bTown g o a pe wo tx ch jo tr dy sd2_24 f2_35]) := hD
                refine W.widen (k := 0) (n := 0) (Nat.le_of_ble_eq_true rfl) (Nat.le_of_ble_eq_true rfl) ?_
                refine W.eq (g2 := F0 m 70 ls []) rfl ?_
                have rf2_35 := hq36; clear hq36
                refine lv_aload_n hx hb dX9_comeBack_70 rfl (lv_at hl 1 rfl) ?_
                refine lv_aload_nN hx hb dX9_comeBack_71 rfl (lv_at hl 3 rfl) ?_
                refine lv_iload_n hx hb dX9_comeBack_72 rfl (lv_at hl 4 rfl) ?_
                refine lv_iload hx hb dX9_comeBack_73 (lv_at hl 0 rfl) ?_
                refine lv_if_eq (tgt := 82) hx hb dX9_comeBack_75 (by decide) (fun c37 => absurd c37 (by decide)) (fun _ => ?_)
                refine lv_iconst (v := 2) hx hb dX9_comeBack_78 (by decide) ?_
                refine lv_goto (tgt := 83) hx hb dX9_comeBack_79 (by decide) ?_
                refine mcallV' (g := g) (q0 := 0) (ci := 7) (As := [.null, .int x_1, .int 2]) (rest := []) St hK hT hA hP hD hS hl.1 [0] [] rfl rfl rfl (c_writeN l g o a pe wo tx ch jo tr dy sd2_24 f2_35 x_1 2 b_pe b_wo rf2_35) (cwV 3 hts (zgL (zl4 k125 k126 k127 k24) k124) rfl rfl rfl (by decide +kernel) ⟨Nat.le_of_ble_eq_true rfl, Nat.le_of_ble_eq_true rfl⟩) rfl rfl rfl rfl (Nat.le_of_ble_eq_true rfl) dX9_comeBack_83 ⟨(Nat.le_of_ble_eq_true rfl), (Nat.le_of_ble_eq_true rfl)⟩ (fun _u H locs hq38 hP hD hS => ?_)
                have hP : va_P g.1 vwCl (List.flatten [bTown g o a pe wo tx ch jo tr dy sd2_24 f2_35]) H := hP
                have hD : va_D A (List.flatten [bTown g o a pe wo tx ch jo tr dy sd2_24 f2_35]) := hD
                refine W.widen (k := 0) (n := 0) (Nat.le_of_ble_eq_true rfl) (Nat.le_of_ble_eq_true rfl) ?_
                refine W.eq (g2 := F0 m 86 ls []) rfl ?_
                refine ziinc3 (n' := 1) (a' := 1) (b' := 8) (lv' := fun v9 => [(3, .int v9), (4, .int 1), (0, .ref o), (1, .int tl), (2, .null)]) hx hb dX9_comeBack_86 hl (k := 4) rfl (by decide) (fun _ => rfl) (zaddK (i := x_1.toInt) (j := 1) rfl (by decide) i4.1 n9 (Int.le_refl _) (Int.le_refl _) (by decide)) (fun x_39 ls hx_39 hl => ?_)
                refine lv_goto (tgt := 2) hx hb dX9_comeBack_89 (by decide) ?_
                have hl := lv_sub (l' := [(0, .ref o), (1, .int tl), (2, .null), (3, .int x_39), (4, .int 1)]) hl [2, 3, 4, 0, 1] rfl
                have hP : va_P g.1 vwCl (List.flatten [bTown g o a pe wo tx ch jo tr dy sd2_24 f2_35]) H := hP
                have hD : va_D A (List.flatten [bTown g o a pe wo tx ch jo tr dy sd2_24 f2_35]) := hD
                exact ih2_6 x_39 sd2_24 f2_35 ⟨(Int.le_trans (by decide) hx_39.2.1), hx_39.2.2⟩ rf2_35 H _ ls (zmK hx_39.1 (by decide) n9 (by decide) hk2_6)  hP hD hS (lv_sub hl [0, 1, 2, 3] rfl)
        · skip
          refine lv_if_ne (tgt := 86) hx hb dX9_comeBack_15 (by decide) (fun _ => ?_) (fun c40 => absurd c40 (by decide))
          refine ziinc3 (n' := 1) (a' := 1) (b' := 8) (lv' := fun v9 => [(3, .int v9), (0, .ref o), (1, .int tl), (2, .null)]) hx hb dX9_comeBack_86 hl (k := 3) rfl (by decide) (fun _ => rfl) (zaddK (i := x_1.toInt) (j := 1) rfl (by decide) i4.1 n9 (Int.le_refl _) (Int.le_refl _) (by decide)) (fun x_41 ls hx_41 hl => ?_)
          refine lv_goto (tgt := 2) hx hb dX9_comeBack_89 (by decide) ?_
          have hl := lv_sub (l' := [(0, .ref o), (1, .int tl), (2, .null), (3, .int x_41)]) hl [1, 2, 3, 0] rfl
          have hP : va_P g.1 vwCl (List.flatten [bTown g o a pe wo tx ch jo tr dy x_2 f_3]) H := hP
          have hD : va_D A (List.flatten [bTown g o a pe wo tx ch jo tr dy x_2 f_3]) := hD
          exact ih2_6 x_41 x_2 f_3 ⟨(Int.le_trans (by decide) hx_41.2.1), hx_41.2.2⟩ rf_3 H _ ls (zmK hx_41.1 (by decide) n9 (by decide) hk2_6)  hP hD hS (lv_sub hl [0, 1, 2, 3] rfl)
  have hP : va_P g.1 vwCl (List.flatten [bTown g o a pe wo tx ch jo tr dy sd f]) s.heap := hP
  have hD : va_D A (List.flatten [bTown g o a pe wo tx ch jo tr dy sd f]) := hD
  exact LP2_5 _ 0 sd f (by decide) rf s.heap _ ls (Nat.lt_succ_self _)  hP hD hS (lv_sub hl [0, 1, 2, 3] rfl)
set_option maxRecDepth 100000 in
set_option maxHeartbeats 4000000 in
theorem c_passDayN (l : Launch) (g : zG) (o : Nat) (a : Nat → Nat) (pe : Int32) (wo : Int32) (tx : Int32) (ch : Int32) (jo : Int32) (tr : Int32) (dy : Int32) (sd : Int32) (f : Nat → Nat → Int32) (lo : Nat) (lc : Nat) (lz : Int32) (ll : Int32) (lm : Int32) (lg : Int32) (ld : Int32) (fc : Nat → Int32) (tl : Int32) (b_pe : 0 ≤ pe.toInt ∧ pe.toInt ≤ 8) (b_wo : 0 ≤ wo.toInt ∧ wo.toInt ≤ 6) (rf : zZ4 f) (b_lz : 0 ≤ lz.toInt ∧ lz.toInt ≤ 400) : zM' g l yX9_passDay (Cond.code yX9_passDay cX9_passDay 5 (some .int) :: zB) ({ frames := 5, cells := 0, slots := 0, locals := 104 } : Room) [.ref o, .ref lo, .int tl, .null] [bTown g o a pe wo tx ch jo tr dy sd f, bLaw g lo lc lz ll lm lg ld fc] (fun u : Int32 × Int32 × Int32 × (Nat → Nat → Int32) × Int32 × Int32 × Int32 × Int32 => (fun (ch2 : Int32) (dy2 : Int32) (sd2 : Int32) (f2 : Nat → Nat → Int32) (lm2 : Int32) (lg2 : Int32) (ld2 : Int32) (q : Int32) => some (.int q)) (u.1) (u.2.1) (u.2.2.1) (u.2.2.2.1) (u.2.2.2.2.1) (u.2.2.2.2.2.1) (u.2.2.2.2.2.2.1) (u.2.2.2.2.2.2.2)) (fun u : Int32 × Int32 × Int32 × (Nat → Nat → Int32) × Int32 × Int32 × Int32 × Int32 => (fun (ch2 : Int32) (dy2 : Int32) (sd2 : Int32) (f2 : Nat → Nat → Int32) (lm2 : Int32) (lg2 : Int32) (ld2 : Int32) (q : Int32) => (zZ4 f2)) (u.1) (u.2.1) (u.2.2.1) (u.2.2.2.1) (u.2.2.2.2.1) (u.2.2.2.2.2.1) (u.2.2.2.2.2.2.1) (u.2.2.2.2.2.2.2)) (fun u : Int32 × Int32 × Int32 × (Nat → Nat → Int32) × Int32 × Int32 × Int32 × Int32 => (fun (ch2 : Int32) (dy2 : Int32) (sd2 : Int32) (f2 : Nat → Nat → Int32) (lm2 : Int32) (lg2 : Int32) (ld2 : Int32) (q : Int32) => [bTown g o a pe wo tx ch2 jo tr dy2 sd2 f2, bLaw g lo lc lz ll lm2 lg2 ld2 fc]) (u.1) (u.2.1) (u.2.2.1) (u.2.2.2.1) (u.2.2.2.2.1) (u.2.2.2.2.2.1) (u.2.2.2.2.2.2.1) (u.2.2.2.2.2.2.2)) := by
  refine zM'.of (cc := cX9_passDay) (maxL := 5) (rt := (some .int)) (by decide) rfl (Nat.le_of_ble_eq_true rfl) ?_
  intro p e s m args below meth c A ls St hr hlocks hin hK hT hA hP hD hS hl
  obtain ⟨hx, hb, hml, hown, hts⟩ := id St
  have hl : lv_has ls 5 [(0, .ref o), (1, .ref lo), (2, .int tl), (3, .null)] := hl
  refine lv_aload_n hx hb dX9_passDay_0 rfl (lv_at hl 0 rfl) ?_
  refine lv_aload_n hx hb dX9_passDay_1 rfl (lv_at hl 1 rfl) ?_
  refine mcallV' (g := g) (q0 := 0) (ci := 7) (As := [.ref lo]) (rest := []) St hK hT hA hP hD hS hl.1 [0, 1] [] rfl rfl rfl (c_showTo l g o a pe wo tx ch jo tr dy sd f lo lc lz ll lm lg ld fc b_pe b_wo rf) (cwV 1 hts (zgL (zl4 k142 k143 k144 k24) k86) rfl rfl rfl (by decide +kernel) ⟨Nat.le_of_ble_eq_true rfl, Nat.le_of_ble_eq_true rfl⟩) rfl rfl rfl rfl (Nat.le_of_ble_eq_true rfl) dX9_passDay_2 ⟨(Nat.le_of_ble_eq_true rfl), (Nat.le_of_ble_eq_true rfl)⟩ (fun u_ H locs hq4 hP hD hS => ?_)
  obtain ⟨lm2_1, lg2_2, ld2_3⟩ := u_
  have hP : va_P g.1 vwCl (List.flatten [bTown g o a pe wo tx ch jo tr dy sd f, bLaw g lo lc lz ll lm2_1 lg2_2 ld2_3 fc]) H := hP
  have hD : va_D A (List.flatten [bTown g o a pe wo tx ch jo tr dy sd f, bLaw g lo lc lz ll lm2_1 lg2_2 ld2_3 fc]) := hD
  refine W.widen (k := 0) (n := 0) (Nat.le_of_ble_eq_true rfl) (Nat.le_of_ble_eq_true rfl) ?_
  refine W.eq (g2 := F0 m 5 ls []) rfl ?_
  refine lv_aload_n hx hb dX9_passDay_5 rfl (lv_at hl 0 rfl) ?_
  refine lv_aload_n hx hb dX9_passDay_6 rfl (lv_at hl 1 rfl) ?_
  refine mcallV' (g := g) (q0 := 0) (ci := 7) (As := [.ref lo]) (rest := []) St hK hT hA hP hD hS hl.1 [0, 1] [] rfl rfl rfl (c_turnBeliefs l g o a pe wo tx ch jo tr dy sd f lo lc lz ll lm2_1 lg2_2 ld2_3 fc b_pe b_wo rf b_lz) (cwV 1 hts (zgL (zl4 k145 k146 k147 k24) k114) rfl rfl rfl (by decide +kernel) ⟨Nat.le_of_ble_eq_true rfl, Nat.le_of_ble_eq_true rfl⟩) rfl rfl rfl rfl (Nat.le_of_ble_eq_true rfl) dX9_passDay_7 ⟨(Nat.le_of_ble_eq_true rfl), (Nat.le_of_ble_eq_true rfl)⟩ (fun f2_5 H locs hq6 hP hD hS => ?_)
  replace hq6 : (zZ4 f2_5) := hq6
  have hP : va_P g.1 vwCl (List.flatten [bTown g o a pe wo tx ch jo tr dy sd f2_5, bLaw g lo lc lz ll lm2_1 lg2_2 ld2_3 fc]) H := hP
  have hD : va_D A (List.flatten [bTown g o a pe wo tx ch jo tr dy sd f2_5, bLaw g lo lc lz ll lm2_1 lg2_2 ld2_3 fc]) := hD
  refine W.widen (k := 0) (n := 0) (Nat.le_of_ble_eq_true rfl) (Nat.le_of_ble_eq_true rfl) ?_
  refine W.eq (g2 := F0 m 10 ls []) rfl ?_
  have rf2_5 := hq6; clear hq6
  refine lv_aload_n hx hb dX9_passDay_10 rfl (lv_at hl 0 rfl) ?_
  refine lv_aload_nN hx hb dX9_passDay_11 rfl (lv_at hl 3 rfl) ?_
  refine mcallV' (g := g) (q0 := 0) (ci := 7) (As := [.null]) (rest := []) St hK hT hA hP hD hS hl.1 [0] [1] rfl rfl rfl (c_keepWorksN l g o a pe wo tx ch jo tr dy sd f2_5 b_pe b_wo rf2_5) (cwV 1 hts (zgL (zl4 k148 k149 k150 k24) k128) rfl rfl rfl (by decide +kernel) ⟨Nat.le_of_ble_eq_true rfl, Nat.le_of_ble_eq_true rfl⟩) rfl rfl rfl rfl (Nat.le_of_ble_eq_true rfl) dX9_passDay_12 ⟨(Nat.le_of_ble_eq_true rfl), (Nat.le_of_ble_eq_true rfl)⟩ (fun u_ H locs hq10 hP hD hS => ?_)
  obtain ⟨ch2_7, f2_8, q_9⟩ := u_
  replace hq10 : (zZ4 f2_8) := hq10
  have hP : va_P g.1 vwCl (List.flatten [bLaw g lo lc lz ll lm2_1 lg2_2 ld2_3 fc, bTown g o a pe wo tx ch2_7 jo tr dy sd f2_8]) H := hP
  have hD : va_D A (List.flatten [bLaw g lo lc lz ll lm2_1 lg2_2 ld2_3 fc, bTown g o a pe wo tx ch2_7 jo tr dy sd f2_8]) := hD
  refine W.widen (k := 0) (n := 0) (Nat.le_of_ble_eq_true rfl) (Nat.le_of_ble_eq_true rfl) ?_
  refine W.eq (g2 := F0 m 15 ls [.int q_9]) rfl ?_
  have rf2_8 := hq10; clear hq10
  refine lv_istore (lv' := [(4, .int q_9), (0, .ref o), (1, .ref lo), (2, .int tl), (3, .null)]) hx hb dX9_passDay_15 hl (by decide) rfl (fun ls hl => ?_)
  refine lv_aload_n hx hb dX9_passDay_17 rfl (lv_at hl 1 rfl) ?_
  refine lv_iload_n hx hb dX9_passDay_18 rfl (lv_at hl 3 rfl) ?_
  refine lv_aload_nN hx hb dX9_passDay_19 rfl (lv_at hl 4 rfl) ?_
  refine mcallV' (g := g) (q0 := 0) (ci := 7) (As := [.int tl, .null]) (rest := []) St hK hT hA hP hD hS hl.1 [1] [0] rfl rfl rfl (c_comeBackN l g o a pe wo tx ch2_7 jo tr dy sd f2_8 tl b_pe b_wo rf2_8) (cwV 2 hts (zgL (zl4 k151 k152 k153 k24) k141) rfl rfl rfl (by decide +kernel) ⟨Nat.le_of_ble_eq_true rfl, Nat.le_of_ble_eq_true rfl⟩) rfl rfl rfl rfl (Nat.le_of_ble_eq_true rfl) dX9_passDay_20 ⟨(Nat.le_of_ble_eq_true rfl), (Nat.le_of_ble_eq_true rfl)⟩ (fun u_ H locs hq13 hP hD hS => ?_)
  obtain ⟨sd2_11, f2_12⟩ := u_
  replace hq13 : (zZ4 f2_12) := hq13
  have hP : va_P g.1 vwCl (List.flatten [bLaw g lo lc lz ll lm2_1 lg2_2 ld2_3 fc, bTown g o a pe wo tx ch2_7 jo tr dy sd2_11 f2_12]) H := hP
  have hD : va_D A (List.flatten [bLaw g lo lc lz ll lm2_1 lg2_2 ld2_3 fc, bTown g o a pe wo tx ch2_7 jo tr dy sd2_11 f2_12]) := hD
  refine W.widen (k := 0) (n := 0) (Nat.le_of_ble_eq_true rfl) (Nat.le_of_ble_eq_true rfl) ?_
  refine W.eq (g2 := F0 m 23 ls []) rfl ?_
  have rf2_12 := hq13; clear hq13
  refine lv_aload_n hx hb dX9_passDay_23 rfl (lv_at hl 1 rfl) ?_
  refine lv_sipush (v := 9999) hx hb dX9_passDay_24 (by decide) ?_
  refine lv_aload_n hx hb dX9_passDay_27 rfl (lv_at hl 1 rfl) ?_
  refine va_get (D := g.1) (ci := 7) (v := .int dy) (C := RX9) (T := TX9) (N := 19) hx hb hts izRX9 hown hK hP 2 rfl rfl 6 (by decide) (hts _ k34) (fun _ h9 => h9) rfl dX9_passDay_28 ?_
  refine lv_iconst (v := 1) hx hb dX9_passDay_31 (by decide) ?_
  refine lv_iadd hx hb dX9_passDay_32 ?_
  refine zg (fun x_14 => ?_)
  refine va_mmin hx hb (by rw [hml]; exact hl.1.symm) hown (hts _ k40) (hts _ k41) (hts _ k42) (hts _ k43) (Nat.le_of_ble_eq_true rfl) (Nat.le_of_ble_eq_true rfl) (Nat.le_of_ble_eq_true rfl) (Nat.le_of_ble_eq_true rfl) dX9_passDay_33 ?_
  refine zgmn (i := 9999) (j := x_14.toInt) (by decide) rfl (fun x_15 hx_15 => ?_)
  refine va_put (D := g.1) (ci := 7) (v := .int x_15) (ty := .int) (C := RX9) (T := TX9) (N := 19) hx hb hts izRX9 tyX9 tyX9_ok nmX9 hown hK hP hD hS 2 rfl rfl 6 (by decide) (hts _ k34) (fun _ h9 => h9) rfl (by decide +kernel) rfl rfl (Nat.le_of_ble_eq_true rfl) dX9_passDay_36 (fun H locs hP hD hS => ?_)
  have hP : va_P g.1 vwCl (List.flatten [bLaw g lo lc lz ll lm2_1 lg2_2 ld2_3 fc, bTown g o a pe wo tx ch2_7 jo tr x_15 sd2_11 f2_12]) H := hP
  have hD : va_D A (List.flatten [bLaw g lo lc lz ll lm2_1 lg2_2 ld2_3 fc, bTown g o a pe wo tx ch2_7 jo tr x_15 sd2_11 f2_12]) := hD
  refine lv_iload hx hb dX9_passDay_39 (lv_at hl 0 rfl) ?_
  have hP : va_P g.1 vwCl (List.flatten [bLaw g lo lc lz ll lm2_1 lg2_2 ld2_3 fc, bTown g o a pe wo tx ch2_7 jo tr x_15 sd2_11 f2_12]) H := hP
  have hD : va_D A (List.flatten [bLaw g lo lc lz ll lm2_1 lg2_2 ld2_3 fc, bTown g o a pe wo tx ch2_7 jo tr x_15 sd2_11 f2_12]) := hD
  obtain ⟨hP, hD⟩ := zord (g := g) (Bs' := [bTown g o a pe wo tx ch2_7 jo tr x_15 sd2_11 f2_12, bLaw g lo lc lz ll lm2_1 lg2_2 ld2_3 fc]) [1, 0] rfl rfl hP hD
  exact mret_i hx hb hr hlocks hS (Nat.le_of_ble_eq_true rfl) (Nat.le_of_ble_eq_true rfl) dX9_passDay_41 (ch2_7, x_15, sd2_11, f2_12, lm2_1, lg2_2, ld2_3, q_9) rfl (show (zZ4 f2_12) from rf2_12) hP hD
