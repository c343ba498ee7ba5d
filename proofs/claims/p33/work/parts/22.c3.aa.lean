set_option maxRecDepth 100000 in
set_option maxHeartbeats 4000000 in
theorem c_copyFrom (l : Launch) (g : zG) (o : Nat) (a : Nat → Nat) (pe : Int32) (wo : Int32) (tx : Int32) (ch : Int32) (jo : Int32) (tr : Int32) (dy : Int32) (sd : Int32) (f : Nat → Nat → Int32) (o2 : Nat) (a2 : Nat → Nat) (pe2 : Int32) (wo2 : Int32) (tx2 : Int32) (ch2 : Int32) (jo2 : Int32) (tr2 : Int32) (dy2 : Int32) (sd2 : Int32) (f2 : Nat → Nat → Int32) (b_pe2 : 0 ≤ pe2.toInt ∧ pe2.toInt ≤ 8) (b_wo2 : 0 ≤ wo2.toInt ∧ wo2.toInt ≤ 6) (rf2 : zZ4 f2) : zM' g l yX9_copyFrom (Cond.code yX9_copyFrom cX9_copyFrom 2 none :: zB) ({ frames := 1, cells := 0, slots := 0, locals := 40 } : Room) [.ref o, .ref o2] [bTown g o a pe wo tx ch jo tr dy sd f, bTown g o2 a2 pe2 wo2 tx2 ch2 jo2 tr2 dy2 sd2 f2] (fun (h : Nat → Nat → Int32) => none) (fun (h : Nat → Nat → Int32) => (zZ4 h)) (fun (h : Nat → Nat → Int32) => [bTown g o a pe2 wo2 tx2 ch2 jo2 tr2 dy2 sd2 h, bTown g o2 a2 pe2 wo2 tx2 ch2 jo2 tr2 dy2 sd2 f2]) := by
  refine zM'.of (cc := cX9_copyFrom) (maxL := 2) (rt := none) (by decide) rfl (Nat.le_of_ble_eq_true rfl) ?_
  intro p e s m args below meth c A ls St hr hlocks hin hK hT hA hP hD hS hl
  obtain ⟨hx, hb, hml, hown, hts⟩ := id St
  have hl : lv_has ls 2 [(0, .ref o), (1, .ref o2)] := hl
  refine lv_aload_n hx hb dX9_copyFrom_0 rfl (lv_at hl 0 rfl) ?_
  refine lv_aload_n hx hb dX9_copyFrom_1 rfl (lv_at hl 1 rfl) ?_
  refine va_get (D := g.1) (ci := 7) (v := .int pe2) (C := RX9) (T := TX9) (N := 19) hx hb hts izRX9 hown hK hP 12 rfl rfl 0 (by decide) (hts _ k31) (fun _ h9 => h9) rfl dX9_copyFrom_2 ?_
  refine va_put (D := g.1) (ci := 7) (v := .int pe2) (ty := .int) (C := RX9) (T := TX9) (N := 19) hx hb hts izRX9 tyX9 tyX9_ok nmX9 hown hK hP hD hS 0 rfl rfl 0 (by decide) (hts _ k31) (fun _ h9 => h9) rfl (by decide +kernel) rfl rfl (Nat.le_of_ble_eq_true rfl) dX9_copyFrom_5 (fun H locs hP hD hS => ?_)
  have hP : va_P g.1 vwCl (List.flatten [bTown g o a pe2 wo tx ch jo tr dy sd f, bTown g o2 a2 pe2 wo2 tx2 ch2 jo2 tr2 dy2 sd2 f2]) H := hP
  have hD : va_D A (List.flatten [bTown g o a pe2 wo tx ch jo tr dy sd f, bTown g o2 a2 pe2 wo2 tx2 ch2 jo2 tr2 dy2 sd2 f2]) := hD
  refine lv_aload_n hx hb dX9_copyFrom_8 rfl (lv_at hl 0 rfl) ?_
  refine lv_aload_n hx hb dX9_copyFrom_9 rfl (lv_at hl 1 rfl) ?_
  refine va_get (D := g.1) (ci := 7) (v := .int wo2) (C := RX9) (T := TX9) (N := 19) hx hb hts izRX9 hown hK hP 12 rfl rfl 1 (by decide) (hts _ k32) (fun _ h9 => h9) rfl dX9_copyFrom_10 ?_
  refine va_put (D := g.1) (ci := 7) (v := .int wo2) (ty := .int) (C := RX9) (T := TX9) (N := 19) hx hb hts izRX9 tyX9 tyX9_ok nmX9 hown hK hP hD hS 0 rfl rfl 1 (by decide) (hts _ k32) (fun _ h9 => h9) rfl (by decide +kernel) rfl rfl (Nat.le_of_ble_eq_true rfl) dX9_copyFrom_13 (fun H locs hP hD hS => ?_)
  have hP : va_P g.1 vwCl (List.flatten [bTown g o a pe2 wo2 tx ch jo tr dy sd f, bTown g o2 a2 pe2 wo2 tx2 ch2 jo2 tr2 dy2 sd2 f2]) H := hP
  have hD : va_D A (List.flatten [bTown g o a pe2 wo2 tx ch jo tr dy sd f, bTown g o2 a2 pe2 wo2 tx2 ch2 jo2 tr2 dy2 sd2 f2]) := hD
  refine lv_aload_n hx hb dX9_copyFrom_16 rfl (lv_at hl 0 rfl) ?_
  refine lv_aload_n hx hb dX9_copyFrom_17 rfl (lv_at hl 1 rfl) ?_
  refine va_get (D := g.1) (ci := 7) (v := .int tx2) (C := RX9) (T := TX9) (N := 19) hx hb hts izRX9 hown hK hP 12 rfl rfl 2 (by decide) (hts _ k33) (fun _ h9 => h9) rfl dX9_copyFrom_18 ?_
  refine va_put (D := g.1) (ci := 7) (v := .int tx2) (ty := .int) (C := RX9) (T := TX9) (N := 19) hx hb hts izRX9 tyX9 tyX9_ok nmX9 hown hK hP hD hS 0 rfl rfl 2 (by decide) (hts _ k33) (fun _ h9 => h9) rfl (by decide +kernel) rfl rfl (Nat.le_of_ble_eq_true rfl) dX9_copyFrom_21 (fun H locs hP hD hS => ?_)
  have hP : va_P g.1 vwCl (List.flatten [bTown g o a pe2 wo2 tx2 ch jo tr dy sd f, bTown g o2 a2 pe2 wo2 tx2 ch2 jo2 tr2 dy2 sd2 f2]) H := hP
  have hD : va_D A (List.flatten [bTown g o a pe2 wo2 tx2 ch jo tr dy sd f, bTown g o2 a2 pe2 wo2 tx2 ch2 jo2 tr2 dy2 sd2 f2]) := hD
  refine lv_aload_n hx hb dX9_copyFrom_24 rfl (lv_at hl 0 rfl) ?_
  refine lv_aload_n hx hb dX9_copyFrom_25 rfl (lv_at hl 1 rfl) ?_
  refine va_get (D := g.1) (ci := 7) (v := .int ch2) (C := RX9) (T := TX9) (N := 19) hx hb hts izRX9 hown hK hP 12 rfl rfl 3 (by decide) (hts _ k4) (fun _ h9 => h9) rfl dX9_copyFrom_26 ?_
  refine va_put (D := g.1) (ci := 7) (v := .int ch2) (ty := .int) (C := RX9) (T := TX9) (N := 19) hx hb hts izRX9 tyX9 tyX9_ok nmX9 hown hK hP hD hS 0 rfl rfl 3 (by decide) (hts _ k4) (fun _ h9 => h9) rfl (by decide +kernel) rfl rfl (Nat.le_of_ble_eq_true rfl) dX9_copyFrom_29 (fun H locs hP hD hS => ?_)
  have hP : va_P g.1 vwCl (List.flatten [bTown g o a pe2 wo2 tx2 ch2 jo tr dy sd f, bTown g o2 a2 pe2 wo2 tx2 ch2 jo2 tr2 dy2 sd2 f2]) H := hP
  have hD : va_D A (List.flatten [bTown g o a pe2 wo2 tx2 ch2 jo tr dy sd f, bTown g o2 a2 pe2 wo2 tx2 ch2 jo2 tr2 dy2 sd2 f2]) := hD
  refine lv_aload_n hx hb dX9_copyFrom_32 rfl (lv_at hl 0 rfl) ?_
  refine lv_aload_n hx hb dX9_copyFrom_33 rfl (lv_at hl 1 rfl) ?_
  refine va_get (D := g.1) (ci := 7) (v := .int jo2) (C := RX9) (T := TX9) (N := 19) hx hb hts izRX9 hown hK hP 12 rfl rfl 4 (by decide) (hts _ k5) (fun _ h9 => h9) rfl dX9_copyFrom_34 ?_
  refine va_put (D := g.1) (ci := 7) (v := .int jo2) (ty := .int) (C := RX9) (T := TX9) (N := 19) hx hb hts izRX9 tyX9 tyX9_ok nmX9 hown hK hP hD hS 0 rfl rfl 4 (by decide) (hts _ k5) (fun _ h9 => h9) rfl (by decide +kernel) rfl rfl (Nat.le_of_ble_eq_true rfl) dX9_copyFrom_37 (fun H locs hP hD hS => ?_)
  have hP : va_P g.1 vwCl (List.flatten [bTown g o a pe2 wo2 tx2 ch2 jo2 tr dy sd f, bTown g o2 a2 pe2 wo2 tx2 ch2 jo2 tr2 dy2 sd2 f2]) H := hP
  have hD : va_D A (List.flatten [bTown g o a pe2 wo2 tx2 ch2 jo2 tr dy sd f, bTown g o2 a2 pe2 wo2 tx2 ch2 jo2 tr2 dy2 sd2 f2]) := hD
  refine lv_aload_n hx hb dX9_copyFrom_40 rfl (lv_at hl 0 rfl) ?_
  refine lv_aload_n hx hb dX9_copyFrom_41 rfl (lv_at hl 1 rfl) ?_
  refine va_get (D := g.1) (ci := 7) (v := .int tr2) (C := RX9) (T := TX9) (N := 19) hx hb hts izRX9 hown hK hP 12 rfl rfl 5 (by decide) (hts _ k6) (fun _ h9 => h9) rfl dX9_copyFrom_42 ?_
  refine va_put (D := g.1) (ci := 7) (v := .int tr2) (ty := .int) (C := RX9) (T := TX9) (N := 19) hx hb hts izRX9 tyX9 tyX9_ok nmX9 hown hK hP hD hS 0 rfl rfl 5 (by decide) (hts _ k6) (fun _ h9 => h9) rfl (by decide +kernel) rfl rfl (Nat.le_of_ble_eq_true rfl) dX9_copyFrom_45 (fun H locs hP hD hS => ?_)
  have hP : va_P g.1 vwCl (List.flatten [bTown g o a pe2 wo2 tx2 ch2 jo2 tr2 dy sd f, bTown g o2 a2 pe2 wo2 tx2 ch2 jo2 tr2 dy2 sd2 f2]) H := hP
  have hD : va_D A (List.flatten [bTown g o a pe2 wo2 tx2 ch2 jo2 tr2 dy sd f, bTown g o2 a2 pe2 wo2 tx2 ch2 jo2 tr2 dy2 sd2 f2]) := hD
  refine lv_aload_n hx hb dX9_copyFrom_48 rfl (lv_at hl 0 rfl) ?_
  refine lv_aload_n hx hb dX9_copyFrom_49 rfl (lv_at hl 1 rfl) ?_
  refine va_get (D := g.1) (ci := 7) (v := .int dy2) (C := RX9) (T := TX9) (N := 19) hx hb hts izRX9 hown hK hP 12 rfl rfl 6 (by decide) (hts _ k34) (fun _ h9 => h9) rfl dX9_copyFrom_50 ?_
  refine va_put (D := g.1) (ci := 7) (v := .int dy2) (ty := .int) (C := RX9) (T := TX9) (N := 19) hx hb hts izRX9 tyX9 tyX9_ok nmX9 hown hK hP hD hS 0 rfl rfl 6 (by decide) (hts _ k34) (fun _ h9 => h9) rfl (by decide +kernel) rfl rfl (Nat.le_of_ble_eq_true rfl) dX9_copyFrom_53 (fun H locs hP hD hS => ?_)
  have hP : va_P g.1 vwCl (List.flatten [bTown g o a pe2 wo2 tx2 ch2 jo2 tr2 dy2 sd f, bTown g o2 a2 pe2 wo2 tx2 ch2 jo2 tr2 dy2 sd2 f2]) H := hP
  have hD : va_D A (List.flatten [bTown g o a pe2 wo2 tx2 ch2 jo2 tr2 dy2 sd f, bTown g o2 a2 pe2 wo2 tx2 ch2 jo2 tr2 dy2 sd2 f2]) := hD
  refine lv_aload_n hx hb dX9_copyFrom_56 rfl (lv_at hl 0 rfl) ?_
  refine lv_aload_n hx hb dX9_copyFrom_57 rfl (lv_at hl 1 rfl) ?_
  refine va_get (D := g.1) (ci := 7) (v := .int sd2) (C := RX9) (T := TX9) (N := 19) hx hb hts izRX9 hown hK hP 12 rfl rfl 7 (by decide) (hts _ k7) (fun _ h9 => h9) rfl dX9_copyFrom_58 ?_
  refine va_put (D := g.1) (ci := 7) (v := .int sd2) (ty := .int) (C := RX9) (T := TX9) (N := 19) hx hb hts izRX9 tyX9 tyX9_ok nmX9 hown hK hP hD hS 0 rfl rfl 7 (by decide) (hts _ k7) (fun _ h9 => h9) rfl (by decide +kernel) rfl rfl (Nat.le_of_ble_eq_true rfl) dX9_copyFrom_61 (fun H locs hP hD hS => ?_)
  have hP : va_P g.1 vwCl (List.flatten [bTown g o a pe2 wo2 tx2 ch2 jo2 tr2 dy2 sd2 f, bTown g o2 a2 pe2 wo2 tx2 ch2 jo2 tr2 dy2 sd2 f2]) H := hP
  have hD : va_D A (List.flatten [bTown g o a pe2 wo2 tx2 ch2 jo2 tr2 dy2 sd2 f, bTown g o2 a2 pe2 wo2 tx2 ch2 jo2 tr2 dy2 sd2 f2]) := hD
  refine lv_aload_n hx hb dX9_copyFrom_64 rfl (lv_at hl 1 rfl) ?_
  refine va_get (D := g.1) (ci := 7) (v := .ref (a2 0)) (C := RX9) (T := TX9) (N := 19) hx hb hts izRX9 hown hK hP 12 rfl rfl 8 (by decide) (hts _ k9) (fun _ h9 => h9) rfl dX9_copyFrom_65 ?_
  refine lv_iconst (v := 0) hx hb dX9_copyFrom_68 (by decide) ?_
  refine lv_aload_n hx hb dX9_copyFrom_69 rfl (lv_at hl 0 rfl) ?_
  refine va_get (D := g.1) (ci := 7) (v := .ref (a 0)) (C := RX9) (T := TX9) (N := 19) hx hb hts izRX9 hown hK hP 0 rfl rfl 8 (by decide) (hts _ k9) (fun _ h9 => h9) rfl dX9_copyFrom_70 ?_
  refine lv_iconst (v := 0) hx hb dX9_copyFrom_73 (by decide) ?_
  refine lv_bipush (v := 8) hx hb dX9_copyFrom_74 (by decide) ?_
  refine va_copyi (D := g.1) (ty := .int) hx hb (by rw [hml]; exact hl.1.symm) hown (hts _ k35) (hts _ k36) (hts _ k37) (hts _ k38) hK hP hD hS 13 1 0 0 rfl rfl rfl rfl rfl (by decide) (by decide) (by decide) (by decide) (by decide) (fun _ _ => rfl) (Nat.le_of_ble_eq_true rfl) (by decide) dX9_copyFrom_76 (fun H locs hP hD hS => ?_)
  have hP : va_P g.1 vwCl (List.flatten [[(o, .inr (7, [.int pe2, .int wo2, .int tx2, .int ch2, .int jo2, .int tr2, .int dy2, .int sd2, .ref (a 0), .ref (a 1), .ref (a 2), .ref (a 3), .ref (a 4), .ref (a 5), .ref (a 6), .ref (a 7), .ref (a 8), .ref (a 9), .ref (a 10)])), (a 0, .inl (g.2 0, 8, .inl (va_cpy (f2 0) (f 0) 0 0 8))), (a 1, .inl (g.2 0, 8, .inl (f 1))), (a 2, .inl (g.2 0, 8, .inl (f 2))), (a 3, .inl (g.2 0, 8, .inl (f 3))), (a 4, .inl (g.2 1, 8, .inl (f 4))), (a 5, .inl (g.2 0, 64, .inl (f 5))), (a 6, .inl (g.2 0, 6, .inl (f 6))), (a 7, .inl (g.2 0, 6, .inl (f 7))), (a 8, .inl (g.2 0, 6, .inl (f 8))), (a 9, .inl (g.2 0, 6, .inl (f 9))), (a 10, .inl (g.2 0, 8, .inl (f 10)))], bTown g o2 a2 pe2 wo2 tx2 ch2 jo2 tr2 dy2 sd2 f2]) H := hP
  have hD : va_D A (List.flatten [[(o, .inr (7, [.int pe2, .int wo2, .int tx2, .int ch2, .int jo2, .int tr2, .int dy2, .int sd2, .ref (a 0), .ref (a 1), .ref (a 2), .ref (a 3), .ref (a 4), .ref (a 5), .ref (a 6), .ref (a 7), .ref (a 8), .ref (a 9), .ref (a 10)])), (a 0, .inl (g.2 0, 8, .inl (va_cpy (f2 0) (f 0) 0 0 8))), (a 1, .inl (g.2 0, 8, .inl (f 1))), (a 2, .inl (g.2 0, 8, .inl (f 2))), (a 3, .inl (g.2 0, 8, .inl (f 3))), (a 4, .inl (g.2 1, 8, .inl (f 4))), (a 5, .inl (g.2 0, 64, .inl (f 5))), (a 6, .inl (g.2 0, 6, .inl (f 6))), (a 7, .inl (g.2 0, 6, .inl (f 7))), (a 8, .inl (g.2 0, 6, .inl (f 8))), (a 9, .inl (g.2 0, 6, .inl (f 9))), (a 10, .inl (g.2 0, 8, .inl (f 10)))], bTown g o2 a2 pe2 wo2 tx2 ch2 jo2 tr2 dy2 sd2 f2]) := hD
  refine lv_aload_n hx hb dX9_copyFrom_79 rfl (lv_at hl 1 rfl) ?_
  refine va_get (D := g.1) (ci := 7) (v := .ref (a2 1)) (C := RX9) (T := TX9) (N := 19) hx hb hts izRX9 hown hK hP 12 rfl rfl 9 (by decide) (hts _ k10) (fun _ h9 => h9) rfl dX9_copyFrom_80 ?_
  refine lv_iconst (v := 0) hx hb dX9_copyFrom_83 (by decide) ?_
  refine lv_aload_n hx hb dX9_copyFrom_84 rfl (lv_at hl 0 rfl) ?_
  refine va_get (D := g.1) (ci := 7) (v := .ref (a 1)) (C := RX9) (T := TX9) (N := 19) hx hb hts izRX9 hown hK hP 0 rfl rfl 9 (by decide) (hts _ k10) (fun _ h9 => h9) rfl dX9_copyFrom_85 ?_
  refine lv_iconst (v := 0) hx hb dX9_copyFrom_88 (by decide) ?_
  refine lv_bipush (v := 8) hx hb dX9_copyFrom_89 (by decide) ?_
  refine va_copyi (D := g.1) (ty := .int) hx hb (by rw [hml]; exact hl.1.symm) hown (hts _ k35) (hts _ k36) (hts _ k37) (hts _ k38) hK hP hD hS 14 2 0 0 rfl rfl rfl rfl rfl (by decide) (by decide) (by decide) (by decide) (by decide) (fun _ _ => rfl) (Nat.le_of_ble_eq_true rfl) (by decide) dX9_copyFrom_91 (fun H locs hP hD hS => ?_)
  have hP : va_P g.1 vwCl (List.flatten [[(o, .inr (7, [.int pe2, .int wo2, .int tx2, .int ch2, .int jo2, .int tr2, .int dy2, .int sd2, .ref (a 0), .ref (a 1), .ref (a 2), .ref (a 3), .ref (a 4), .ref (a 5), .ref (a 6), .ref (a 7), .ref (a 8), .ref (a 9), .ref (a 10)])), (a 0, .inl (g.2 0, 8, .inl (va_cpy (f2 0) (f 0) 0 0 8))), (a 1, .inl (g.2 0, 8, .inl (va_cpy (f2 1) (f 1) 0 0 8))), (a 2, .inl (g.2 0, 8, .inl (f 2))), (a 3, .inl (g.2 0, 8, .inl (f 3))), (a 4, .inl (g.2 1, 8, .inl (f 4))), (a 5, .inl (g.2 0, 64, .inl (f 5))), (a 6, .inl (g.2 0, 6, .inl (f 6))), (a 7, .inl (g.2 0, 6, .inl (f 7))), (a 8, .inl (g.2 0, 6, .inl (f 8))), (a 9, .inl (g.2 0, 6, .inl (f 9))), (a 10, .inl (g.2 0, 8, .inl (f 10)))], bTown g o2 a2 pe2 wo2 tx2 ch2 jo2 tr2 dy2 sd2 f2]) H := hP
  have hD : va_D A (List.flatten [[(o, .inr (7, [.int pe2, .int wo2, .int tx2, .int ch2, .int jo2, .int tr2, .int dy2, .int sd2, .ref (a 0), .ref (a 1), .ref (a 2), .ref (a 3), .ref (a 4), .ref (a 5), .ref (a 6), .ref (a 7), .ref (a 8), .ref (a 9), .ref (a 10)])), (a 0, .inl (g.2 0, 8, .inl (va_cpy (f2 0) (f 0) 0 0 8))), (a 1, .inl (g.2 0, 8, .inl (va_cpy (f2 1) (f 1) 0 0 8))), (a 2, .inl (g.2 0, 8, .inl (f 2))), (a 3, .inl (g.2 0, 8, .inl (f 3))), (a 4, .inl (g.2 1, 8, .inl (f 4))), (a 5, .inl (g.2 0, 64, .inl (f 5))), (a 6, .inl (g.2 0, 6, .inl (f 6))), (a 7, .inl (g.2 0, 6, .inl (f 7))), (a 8, .inl (g.2 0, 6, .inl (f 8))), (a 9, .inl (g.2 0, 6, .inl (f 9))), (a 10, .inl (g.2 0, 8, .inl (f 10)))], bTown g o2 a2 pe2 wo2 tx2 ch2 jo2 tr2 dy2 sd2 f2]) := hD
  refine lv_aload_n hx hb dX9_copyFrom_94 rfl (lv_at hl 1 rfl) ?_
  refine va_get (D := g.1) (ci := 7) (v := .ref (a2 2)) (C := RX9) (T := TX9) (N := 19) hx hb hts izRX9 hown hK hP 12 rfl rfl 10 (by decide) (hts _ k11) (fun _ h9 => h9) rfl dX9_copyFrom_95 ?_
  refine lv_iconst (v := 0) hx hb dX9_copyFrom_98 (by decide) ?_
  refine lv_aload_n hx hb dX9_copyFrom_99 rfl (lv_at hl 0 rfl) ?_
  refine va_get (D := g.1) (ci := 7) (v := .ref (a 2)) (C := RX9) (T := TX9) (N := 19) hx hb hts izRX9 hown hK hP 0 rfl rfl 10 (by decide) (hts _ k11) (fun _ h9 => h9) rfl dX9_copyFrom_100 ?_
  refine lv_iconst (v := 0) hx hb dX9_copyFrom_103 (by decide) ?_
  refine lv_bipush (v := 8) hx hb dX9_copyFrom_104 (by decide) ?_
  refine va_copyi (D := g.1) (ty := .int) hx hb (by rw [hml]; exact hl.1.symm) hown (hts _ k35) (hts _ k36) (hts _ k37) (hts _ k38) hK hP hD hS 15 3 0 0 rfl rfl rfl rfl rfl (by decide) (by decide) (by decide) (by decide) (by decide) (fun _ _ => rfl) (Nat.le_of_ble_eq_true rfl) (by decide) dX9_copyFrom_106 (fun H locs hP hD hS => ?_)
  have hP : va_P g.1 vwCl (List.flatten [[(o, .inr (7, [.int pe2, .int wo2, .int tx2, .int ch2, .int jo2, .int tr2, .int dy2, .int sd2, .ref (a 0), .ref (a 1), .ref (a 2), .ref (a 3), .ref (a 4), .ref (a 5), .ref (a 6), .ref (a 7), .ref (a 8), .ref (a 9), .ref (a 10)])), (a 0, .inl (g.2 0, 8, .inl (va_cpy (f2 0) (f 0) 0 0 8))), (a 1, .inl (g.2 0, 8, .inl (va_cpy (f2 1) (f 1) 0 0 8))), (a 2, .inl (g.2 0, 8, .inl (va_cpy (f2 2) (f 2) 0 0 8))), (a 3, .inl (g.2 0, 8, .inl (f 3))), (a 4, .inl (g.2 1, 8, .inl (f 4))), (a 5, .inl (g.2 0, 64, .inl (f 5))), (a 6, .inl (g.2 0, 6, .inl (f 6))), (a 7, .inl (g.2 0, 6, .inl (f 7))), (a 8, .inl (g.2 0, 6, .inl (f 8))), (a 9, .inl (g.2 0, 6, .inl (f 9))), (a 10, .inl (g.2 0, 8, .inl (f 10)))], bTown g o2 a2 pe2 wo2 tx2 ch2 jo2 tr2 dy2 sd2 f2]) H := hP
  have hD : va_D A (List.flatten [[(o, .inr (7, [.int pe2, .int wo2, .int tx2, .int ch2, .int jo2, .int tr2, .int dy2, .int sd2, .ref (a 0), .ref (a 1), .ref (a 2), .ref (a 3), .ref (a 4), .ref (a 5), .ref (a 6), .ref (a 7), .ref (a 8), .ref (a 9), .ref (a 10)])), (a 0, .inl (g.2 0, 8, .inl (va_cpy (f2 0) (f 0) 0 0 8))), (a 1, .inl (g.2 0, 8, .inl (va_cpy (f2 1) (f 1) 0 0 8))), (a 2, .inl (g.2 0, 8, .inl (va_cpy (f2 2) (f 2) 0 0 8))), (a 3, .inl (g.2 0, 8, .inl (f 3))), (a 4, .inl (g.2 1, 8, .inl (f 4))), (a 5, .inl (g.2 0, 64, .inl (f 5))), (a 6, .inl (g.2 0, 6, .inl (f 6))), (a 7, .inl (g.2 0, 6, .inl (f 7))), (a 8, .inl (g.2 0, 6, .inl (f 8))), (a 9, .inl (g.2 0, 6, .inl (f 9))), (a 10, .inl (g.2 0, 8, .inl (f 10)))], bTown g o2 a2 pe2 wo2 tx2 ch2 jo2 tr2 dy2 sd2 f2]) := hD
  refine lv_aload_n hx hb dX9_copyFrom_109 rfl (lv_at hl 1 rfl) ?_
  refine va_get (D := g.1) (ci := 7) (v := .ref (a2 3)) (C := RX9) (T := TX9) (N := 19) hx hb hts izRX9 hown hK hP 12 rfl rfl 11 (by decide) (hts _ k12) (fun _ h9 => h9) rfl dX9_copyFrom_110 ?_
  refine lv_iconst (v := 0) hx hb dX9_copyFrom_113 (by decide) ?_
  refine lv_aload_n hx hb dX9_copyFrom_114 rfl (lv_at hl 0 rfl) ?_
  refine va_get (D := g.1) (ci := 7) (v := .ref (a 3)) (C := RX9) (T := TX9) (N := 19) hx hb hts izRX9 hown hK hP 0 rfl rfl 11 (by decide) (hts _ k12) (fun _ h9 => h9) rfl dX9_copyFrom_115 ?_
  refine lv_iconst (v := 0) hx hb dX9_copyFrom_118 (by decide) ?_
  refine lv_bipush (v := 8) hx hb dX9_copyFrom_119 (by decide) ?_
  refine va_copyi (D := g.1) (ty := .int) hx hb (by rw [hml]; exact hl.1.symm) hown (hts _ k35) (hts _ k36) (hts _ k37) (hts _ k38) hK hP hD hS 16 4 0 0 rfl rfl rfl rfl rfl (by decide) (by decide) (by decide) (by decide) (by decide) (fun _ _ => rfl) (Nat.le_of_ble_eq_true rfl) (by decide) dX9_copyFrom_121 (fun H locs hP hD hS => ?_)
  have hP : va_P g.1 vwCl (List.flatten [[(o, .inr (7, [.int pe2, .int wo2, .int tx2, .int ch2, .int jo2, .int tr2, .int dy2, .int sd2, .ref (a 0), .ref (a 1), .ref (a 2), .ref (a 3), .ref (a 4), .ref (a 5), .ref (a 6), .ref (a 7), .ref (a 8), .ref (a 9), .ref (a 10)])), (a 0, .inl (g.2 0, 8, .inl (va_cpy (f2 0) (f 0) 0 0 8))), (a 1, .inl (g.2 0, 8, .inl (va_cpy (f2 1) (f 1) 0 0 8))), (a 2, .inl (g.2 0, 8, .inl (va_cpy (f2 2) (f 2) 0 0 8))), (a 3, .inl (g.2 0, 8, .inl (va_cpy (f2 3) (f 3) 0 0 8))), (a 4, .inl (g.2 1, 8, .inl (f 4))), (a 5, .inl (g.2 0, 64, .inl (f 5))), (a 6, .inl (g.2 0, 6, .inl (f 6))), (a 7, .inl (g.2 0, 6, .inl (f 7))), (a 8, .inl (g.2 0, 6, .inl (f 8))), (a 9, .inl (g.2 0, 6, .inl (f 9))), (a 10, .inl (g.2 0, 8, .inl (f 10)))], bTown g o2 a2 pe2 wo2 tx2 ch2 jo2 tr2 dy2 sd2 f2]) H := hP
  have hD : va_D A (List.flatten [[(o, .inr (7, [.int pe2, .int wo2, .int tx2, .int ch2, .int jo2, .int tr2, .int dy2, .int sd2, .ref (a 0), .ref (a 1), .ref (a 2), .ref (a 3), .ref (a 4), .ref (a 5), .ref (a 6), .ref (a 7), .ref (a 8), .ref (a 9), .ref (a 10)])), (a 0, .inl (g.2 0, 8, .inl (va_cpy (f2 0) (f 0) 0 0 8))), (a 1, .inl (g.2 0, 8, .inl (va_cpy (f2 1) (f 1) 0 0 8))), (a 2, .inl (g.2 0, 8, .inl (va_cpy (f2 2) (f 2) 0 0 8))), (a 3, .inl (g.2 0, 8, .inl (va_cpy (f2 3) (f 3) 0 0 8))), (a 4, .inl (g.2 1, 8, .inl (f 4))), (a 5, .inl (g.2 0, 64, .inl (f 5))), (a 6, .inl (g.2 0, 6, .inl (f 6))), (a 7, .inl (g.2 0, 6, .inl (f 7))), (a 8, .inl (g.2 0, 6, .inl (f 8))), (a 9, .inl (g.2 0, 6, .inl (f 9))), (a 10, .inl (g.2 0, 8, .inl (f 10)))], bTown g o2 a2 pe2 wo2 tx2 ch2 jo2 tr2 dy2 sd2 f2]) := hD
  refine lv_aload_n hx hb dX9_copyFrom_124 rfl (lv_at hl 1 rfl) ?_
  refine va_get (D := g.1) (ci := 7) (v := .ref (a2 4)) (C := RX9) (T := TX9) (N := 19) hx hb hts izRX9 hown hK hP 12 rfl rfl 12 (by decide) (hts _ k14) (fun _ h9 => h9) rfl dX9_copyFrom_125 ?_
  refine lv_iconst (v := 0) hx hb dX9_copyFrom_128 (by decide) ?_
  refine lv_aload_n hx hb dX9_copyFrom_129 rfl (lv_at hl 0 rfl) ?_
  refine va_get (D := g.1) (ci := 7) (v := .ref (a 4)) (C := RX9) (T := TX9) (N := 19) hx hb hts izRX9 hown hK hP 0 rfl rfl 12 (by decide) (hts _ k14) (fun _ h9 => h9) rfl dX9_copyFrom_130 ?_
  refine lv_iconst (v := 0) hx hb dX9_copyFrom_133 (by decide) ?_
  refine lv_bipush (v := 8) hx hb dX9_copyFrom_134 (by decide) ?_
  refine va_copyi (D := g.1) (ty := .boolean) hx hb (by rw [hml]; exact hl.1.symm) hown (hts _ k35) (hts _ k36) (hts _ k37) (hts _ k38) hK hP hD hS 17 5 1 1 rfl rfl rfl rfl rfl (by decide) (by decide) (by decide) (by decide) (by decide) (zZs rf2) (Nat.le_of_ble_eq_true rfl) (by decide) dX9_copyFrom_136 (fun H locs hP hD hS => ?_)
  have hP : va_P g.1 vwCl (List.flatten [[(o, .inr (7, [.int pe2, .int wo2, .int tx2, .int ch2, .int jo2, .int tr2, .int dy2, .int sd2, .ref (a 0), .ref (a 1), .ref (a 2), .ref (a 3), .ref (a 4), .ref (a 5), .ref (a 6), .ref (a 7), .ref (a 8), .ref (a 9), .ref (a 10)])), (a 0, .inl (g.2 0, 8, .inl (va_cpy (f2 0) (f 0) 0 0 8))), (a 1, .inl (g.2 0, 8, .inl (va_cpy (f2 1) (f 1) 0 0 8))), (a 2, .inl (g.2 0, 8, .inl (va_cpy (f2 2) (f 2) 0 0 8))), (a 3, .inl (g.2 0, 8, .inl (va_cpy (f2 3) (f 3) 0 0 8))), (a 4, .inl (g.2 1, 8, .inl (va_cpy (f2 4) (f 4) 0 0 8))), (a 5, .inl (g.2 0, 64, .inl (f 5))), (a 6, .inl (g.2 0, 6, .inl (f 6))), (a 7, .inl (g.2 0, 6, .inl (f 7))), (a 8, .inl (g.2 0, 6, .inl (f 8))), (a 9, .inl (g.2 0, 6, .inl (f 9))), (a 10, .inl (g.2 0, 8, .inl (f 10)))], bTown g o2 a2 pe2 wo2 tx2 ch2 jo2 tr2 dy2 sd2 f2]) H := hP
  have hD : va_D A (List.flatten [[(o, .inr (7, [.int pe2, .int wo2, .int tx2, .int ch2, .int jo2, .int tr2, .int dy2, .int sd2, .ref (a 0), .ref (a 1), .ref (a 2), .ref (a 3), .ref (a 4), .ref (a 5), .ref (a 6), .ref (a 7), .ref (a 8), .ref (a 9), .ref (a 10)])), (a 0, .inl (g.2 0, 8, .inl (va_cpy (f2 0) (f 0) 0 0 8))), (a 1, .inl (g.2 0, 8, .inl (va_cpy (f2 1) (f 1) 0 0 8))), (a 2, .inl (g.2 0, 8, .inl (va_cpy (f2 2) (f 2) 0 0 8))), (a 3, .inl (g.2 0, 8, .inl (va_cpy (f2 3) (f 3) 0 0 8))), (a 4, .inl (g.2 1, 8, .inl (va_cpy (f2 4) (f 4) 0 0 8))), (a 5, .inl (g.2 0, 64, .inl (f 5))), (a 6, .inl (g.2 0, 6, .inl (f 6))), (a 7, .inl (g.2 0, 6, .inl (f 7))), (a 8, .inl (g.2 0, 6, .inl (f 8))), (a 9, .inl (g.2 0, 6, .inl (f 9))), (a 10, .inl (g.2 0, 8, .inl (f 10)))], bTown g o2 a2 pe2 wo2 tx2 ch2 jo2 tr2 dy2 sd2 f2]) := hD
  refine lv_aload_n hx hb dX9_copyFrom_139 rfl (lv_at hl 1 rfl) ?_
  refine va_get (D := g.1) (ci := 7) (v := .ref (a2 5)) (C := RX9) (T := TX9) (N := 19) hx hb hts izRX9 hown hK hP 12 rfl rfl 13 (by decide) (hts _ k15) (fun _ h9 => h9) rfl dX9_copyFrom_140 ?_
  refine lv_iconst (v := 0) hx hb dX9_copyFrom_143 (by decide) ?_
  refine lv_aload_n hx hb dX9_copyFrom_144 rfl (lv_at hl 0 rfl) ?_
  refine va_get (D := g.1) (ci := 7) (v := .ref (a 5)) (C := RX9) (T := TX9) (N := 19) hx hb hts izRX9 hown hK hP 0 rfl rfl 13 (by decide) (hts _ k15) (fun _ h9 => h9) rfl dX9_copyFrom_145 ?_
  refine lv_iconst (v := 0) hx hb dX9_copyFrom_148 (by decide) ?_
  refine lv_bipush (v := 64) hx hb dX9_copyFrom_149 (by decide) ?_
  refine va_copyi (D := g.1) (ty := .int) hx hb (by rw [hml]; exact hl.1.symm) hown (hts _ k35) (hts _ k36) (hts _ k37) (hts _ k38) hK hP hD hS 18 6 0 0 rfl rfl rfl rfl rfl (by decide) (by decide) (by decide) (by decide) (by decide) (fun _ _ => rfl) (Nat.le_of_ble_eq_true rfl) (by decide) dX9_copyFrom_151 (fun H locs hP hD hS => ?_)
  have hP : va_P g.1 vwCl (List.flatten [[(o, .inr (7, [.int pe2, .int wo2, .int tx2, .int ch2, .int jo2, .int tr2, .int dy2, .int sd2, .ref (a 0), .ref (a 1), .ref (a 2), .ref (a 3), .ref (a 4), .ref (a 5), .ref (a 6), .ref (a 7), .ref (a 8), .ref (a 9), .ref (a 10)])), (a 0, .inl (g.2 0, 8, .inl (va_cpy (f2 0) (f 0) 0 0 8))), (a 1, .inl (g.2 0, 8, .inl (va_cpy (f2 1) (f 1) 0 0 8))), (a 2, .inl (g.2 0, 8, .inl (va_cpy (f2 2) (f 2) 0 0 8))), (a 3, .inl (g.2 0, 8, .inl (va_cpy (f2 3) (f 3) 0 0 8))), (a 4, .inl (g.2 1, 8, .inl (va_cpy (f2 4) (f 4) 0 0 8))), (a 5, .inl (g.2 0, 64, .inl (va_cpy (f2 5) (f 5) 0 0 64))), (a 6, .inl (g.2 0, 6, .inl (f 6))), (a 7, .inl (g.2 0, 6, .inl (f 7))), (a 8, .inl (g.2 0, 6, .inl (f 8))), (a 9, .inl (g.2 0, 6, .inl (f 9))), (a 10, .inl (g.2 0, 8, .inl (f 10)))], bTown g o2 a2 pe2 wo2 tx2 ch2 jo2 tr2 dy2 sd2 f2]) H := hP
  have hD : va_D A (List.flatten [[(o, .inr (7, [.int pe2, .int wo2, .int tx2, .int ch2, .int jo2, .int tr2, .int dy2, .int sd2, .ref (a 0), .ref (a 1), .ref (a 2), .ref (a 3), .ref (a 4), .ref (a 5), .ref (a 6), .ref (a 7), .ref (a 8), .ref (a 9), .ref (a 10)])), (a 0, .inl (g.2 0, 8, .inl (va_cpy (f2 0) (f 0) 0 0 8))), (a 1, .inl (g.2 0, 8, .inl (va_cpy (f2 1) (f 1) 0 0 8))), (a 2, .inl (g.2 0, 8, .inl (va_cpy (f2 2) (f 2) 0 0 8))), (a 3, .inl (g.2 0, 8, .inl (va_cpy (f2 3) (f 3) 0 0 8))), (a 4, .inl (g.2 1, 8, .inl (va_cpy (f2 4) (f 4) 0 0 8))), (a 5, .inl (g.2 0, 64, .inl (va_cpy (f2 5) (f 5) 0 0 64))), (a 6, .inl (g.2 0, 6, .inl (f 6))), (a 7, .inl (g.2 0, 6, .inl (f 7))), (a 8, .inl (g.2 0, 6, .inl (f 8))), (a 9, .inl (g.2 0, 6, .inl (f 9))), (a 10, .inl (g.2 0, 8, .inl (f 10)))], bTown g o2 a2 pe2 wo2 tx2 ch2 jo2 tr2 dy2 sd2 f2]) := hD
  refine lv_aload_n hx hb dX9_copyFrom_154 rfl (lv_at hl 1 rfl) ?_
  refine va_get (D := g.1) (ci := 7) (v := .ref (a2 6)) (C := RX9) (T := TX9) (N := 19) hx hb hts izRX9 hown hK hP 12 rfl rfl 14 (by decide) (hts _ k16) (fun _ h9 => h9) rfl dX9_copyFrom_155 ?_
  refine lv_iconst (v := 0) hx hb dX9_copyFrom_158 (by decide) ?_
  refine lv_aload_n hx hb dX9_copyFrom_159 rfl (lv_at hl 0 rfl) ?_
  refine va_get (D := g.1) (ci := 7) (v := .ref (a 6)) (C := RX9) (T := TX9) (N := 19) hx hb hts izRX9 hown hK hP 0 rfl rfl 14 (by decide) (hts _ k16) (fun _ h9 => h9) rfl dX9_copyFrom_160 ?_
  refine lv_iconst (v := 0) hx hb dX9_copyFrom_163 (by decide) ?_
  refine lv_bipush (v := 6) hx hb dX9_copyFrom_164 (by decide) ?_
  refine va_copyi (D := g.1) (ty := .int) hx hb (by rw [hml]; exact hl.1.symm) hown (hts _ k35) (hts _ k36) (hts _ k37) (hts _ k38) hK hP hD hS 19 7 0 0 rfl rfl rfl rfl rfl (by decide) (by decide) (by decide) (by decide) (by decide) (fun _ _ => rfl) (Nat.le_of_ble_eq_true rfl) (by decide) dX9_copyFrom_166 (fun H locs hP hD hS => ?_)
  have hP : va_P g.1 vwCl (List.flatten [[(o, .inr (7, [.int pe2, .int wo2, .int tx2, .int ch2, .int jo2, .int tr2, .int dy2, .int sd2, .ref (a 0), .ref (a 1), .ref (a 2), .ref (a 3), .ref (a 4), .ref (a 5), .ref (a 6), .ref (a 7), .ref (a 8), .ref (a 9), .ref (a 10)])), (a 0, .inl (g.2 0, 8, .inl (va_cpy (f2 0) (f 0) 0 0 8))), (a 1, .inl (g.2 0, 8, .inl (va_cpy (f2 1) (f 1) 0 0 8))), (a 2, .inl (g.2 0, 8, .inl (va_cpy (f2 2) (f 2) 0 0 8))), (a 3, .inl (g.2 0, 8, .inl (va_cpy (f2 3) (f 3) 0 0 8))), (a 4, .inl (g.2 1, 8, .inl (va_cpy (f2 4) (f 4) 0 0 8))), (a 5, .inl (g.2 0, 64, .inl (va_cpy (f2 5) (f 5) 0 0 64))), (a 6, .inl (g.2 0, 6, .inl (va_cpy (f2 6) (f 6) 0 0 6))), (a 7, .inl (g.2 0, 6, .inl (f 7))), (a 8, .inl (g.2 0, 6, .inl (f 8))), (a 9, .inl (g.2 0, 6, .inl (f 9))), (a 10, .inl (g.2 0, 8, .inl (f 10)))], bTown g o2 a2 pe2 wo2 tx2 ch2 jo2 tr2 dy2 sd2 f2]) H := hP
  have hD : va_D A (List.flatten [[(o, .inr (7, [.int pe2, .int wo2, .int tx2, .int ch2, .int jo2, .int tr2, .int dy2, .int sd2, .ref (a 0), .ref (a 1), .ref (a 2), .ref (a 3), .ref (a 4), .ref (a 5), .ref (a 6), .ref (a 7), .ref (a 8), .ref (a 9), .ref (a 10)])), (a 0, .inl (g.2 0, 8, .inl (va_cpy (f2 0) (f 0) 0 0 8))), (a 1, .inl (g.2 0, 8, .inl (va_cpy (f2 1) (f 1) 0 0 8))), (a 2, .inl (g.2 0, 8, .inl (va_cpy (f2 2) (f 2) 0 0 8))), (a 3, .inl (g.2 0, 8, .inl (va_cpy (f2 3) (f 3) 0 0 8))), (a 4, .inl (g.2 1, 8, .inl (va_cpy (f2 4) (f 4) 0 0 8))), (a 5, .inl (g.2 0, 64, .inl (va_cpy (f2 5) (f 5) 0 0 64))), (a 6, .inl (g.2 0, 6, .inl (va_cpy (f2 6) (f 6) 0 0 6))), (a 7, .inl (g.2 0, 6, .inl (f 7))), (a 8, .inl (g.2 0, 6, .inl (f 8))), (a 9, .inl (g.2 0, 6, .inl (f 9))), (a 10, .inl (g.2 0, 8, .inl (f 10)))], bTown g o2 a2 pe2 wo2 tx2 ch2 jo2 tr2 dy2 sd2 f2]) := hD
  refine lv_aload_n hx hb dX9_copyFrom_169 rfl (lv_at hl 1 rfl) ?_
  refine va_get (D := g.1) (ci := 7) (v := .ref (a2 7)) (C := RX9) (T := TX9) (N := 19) hx hb hts izRX9 hown hK hP 12 rfl rfl 15 (by decide) (hts _ k17) (fun _ h9 => h9) rfl dX9_copyFrom_170 ?_
  refine lv_iconst (v := 0) hx hb dX9_copyFrom_173 (by decide) ?_
  refine lv_aload_n hx hb dX9_copyFrom_174 rfl (lv_at hl 0 rfl) ?_
  refine va_get (D := g.1) (ci := 7) (v := .ref (a 7)) (C := RX9) (T := TX9) (N := 19) hx hb hts izRX9 hown hK hP 0 rfl rfl 15 (by decide) (hts _ k17) (fun _ h9 => h9) rfl dX9_copyFrom_175 ?_
  refine lv_iconst (v := 0) hx hb dX9_copyFrom_178 (by decide) ?_
  refine lv_bipush (v := 6) hx hb dX9_copyFrom_179 (by decide) ?_
  refine va_copyi (D := g.1) (ty := .int) hx hb (by rw [hml]; exact hl.1.symm) hown (hts _ k35) (hts _ k36) (hts _ k37) (hts _ k38) hK hP hD hS 20 8 0 0 rfl rfl rfl rfl rfl (by decide) (by decide) (by decide) (by decide) (by decide) (fun _ _ => rfl) (Nat.le_of_ble_eq_true rfl) (by decide) dX9_copyFrom_181 (fun H locs hP hD hS => ?_)
  have hP : va_P g.1 vwCl (List.flatten [[(o, .inr (7, [.int pe2, .int wo2, .int tx2, .int ch2, .int jo2, .int tr2, .int dy2, .int sd2, .ref (a 0), .ref (a 1), .ref (a 2), .ref (a 3), .ref (a 4), .ref (a 5), .ref (a 6), .ref (a 7), .ref (a 8), .ref (a 9), .ref (a 10)])), (a 0, .inl (g.2 0, 8, .inl (va_cpy (f2 0) (f 0) 0 0 8))), (a 1, .inl (g.2 0, 8, .inl (va_cpy (f2 1) (f 1) 0 0 8))), (a 2, .inl (g.2 0, 8, .inl (va_cpy (f2 2) (f 2) 0 0 8))), (a 3, .inl (g.2 0, 8, .inl (va_cpy (f2 3) (f 3) 0 0 8))), (a 4, .inl (g.2 1, 8, .inl (va_cpy (f2 4) (f 4) 0 0 8))), (a 5, .inl (g.2 0, 64, .inl (va_cpy (f2 5) (f 5) 0 0 64))), (a 6, .inl (g.2 0, 6, .inl (va_cpy (f2 6) (f 6) 0 0 6))), (a 7, .inl (g.2 0, 6, .inl (va_cpy (f2 7) (f 7) 0 0 6))), (a 8, .inl (g.2 0, 6, .inl (f 8))), (a 9, .inl (g.2 0, 6, .inl (f 9))), (a 10, .inl (g.2 0, 8, .inl (f 10)))], bTown g o2 a2 pe2 wo2 tx2 ch2 jo2 tr2 dy2 sd2 f2]) H := hP
  have hD : va_D A (List.flatten [[(o, .inr (7, [.int pe2, .int wo2, .int tx2, .int ch2, .int jo2, .int tr2, .int dy2, .int sd2, .ref (a 0), .ref (a 1), .ref (a 2), .ref (a 3), .ref (a 4), .ref (a 5), .ref (a 6), .ref (a 7), .ref (a 8), .ref (a 9), .ref (a 10)])), (a 0, .inl (g.2 0, 8, .inl (va_cpy (f2 0) (f 0) 0 0 8))), (a 1, .inl (g.2 0, 8, .inl (va_cpy (f2 1) (f 1) 0 0 8))), (a 2, .inl (g.2 0, 8, .inl (va_cpy (f2 2) (f 2) 0 0 8))), (a 3, .inl (g.2 0, 8, .inl (va_cpy (f2 3) (f 3) 0 0 8))), (a 4, .inl (g.2 1, 8, .inl (va_cpy (f2 4) (f 4) 0 0 8))), (a 5, .inl (g.2 0, 64, .inl (va_cpy (f2 5) (f 5) 0 0 64))), (a 6, .inl (g.2 0, 6, .inl (va_cpy (f2 6) (f 6) 0 0 6))), (a 7, .inl (g.2 0, 6, .inl (va_cpy (f2 7) (f 7) 0 0 6))), (a 8, .inl (g.2 0, 6, .inl (f 8))), (a 9, .inl (g.2 0, 6, .inl (f 9))), (a 10, .inl (g.2 0, 8, .inl (f 10)))], bTown g o2 a2 pe2 wo2 tx2 ch2 jo2 tr2 dy2 sd2 f2]) := hD
  refine lv_aload_n hx hb dX9_copyFrom_184 rfl (lv_at hl 1 rfl) ?_
  refine va_get (D := g.1) (ci := 7) (v := .ref (a2 8)) (C := RX9) (T := TX9) (N := 19) hx hb hts izRX9 hown hK hP 12 rfl rfl 16 (by decide) (hts _ k18) (fun _ h9 => h9) rfl dX9_copyFrom_185 ?_
  refine lv_iconst (v := 0) hx hb dX9_copyFrom_188 (by decide) ?_
  refine lv_aload_n hx hb dX9_copyFrom_189 rfl (lv_at hl 0 rfl) ?_
  refine va_get (D := g.1) (ci := 7) (v := .ref (a 8)) (C := RX9) (T := TX9) (N := 19) hx hb hts izRX9 hown hK hP 0 rfl rfl 16 (by decide) (hts _ k18) (fun _ h9 => h9) rfl dX9_copyFrom_190 ?_
  refine lv_iconst (v := 0) hx hb dX9_copyFrom_193 (by decide) ?_
  refine lv_bipush (v := 6) hx hb dX9_copyFrom_194 (by decide) ?_
  refine va_copyi (D := g.1) (ty := .int) hx hb (by rw [hml]; exact hl.1.symm) hown (hts _ k35) (hts _ k36) (hts _ k37) (hts _ k38) hK hP hD hS 21 9 0 0 rfl rfl rfl rfl rfl (by decide) (by decide) (by decide) (by decide) (by decide) (fun _ _ => rfl) (Nat.le_of_ble_eq_true rfl) (by decide) dX9_copyFrom_196 (fun H locs hP hD hS => ?_)
  have hP : va_P g.1 vwCl (List.flatten [[(o, .inr (7, [.int pe2, .int wo2, .int tx2, .int ch2, .int jo2, .int tr2, .int dy2, .int sd2, .ref (a 0), .ref (a 1), .ref (a 2), .ref (a 3), .ref (a 4), .ref (a 5), .ref (a 6), .ref (a 7), .ref (a 8), .ref (a 9), .ref (a 10)])), (a 0, .inl (g.2 0, 8, .inl (va_cpy (f2 0) (f 0) 0 0 8))), (a 1, .inl (g.2 0, 8, .inl (va_cpy (f2 1) (f 1) 0 0 8))), (a 2, .inl (g.2 0, 8, .inl (va_cpy (f2 2) (f 2) 0 0 8))), (a 3, .inl (g.2 0, 8, .inl (va_cpy (f2 3) (f 3) 0 0 8))), (a 4, .inl (g.2 1, 8, .inl (va_cpy (f2 4) (f 4) 0 0 8))), (a 5, .inl (g.2 0, 64, .inl (va_cpy (f2 5) (f 5) 0 0 64))), (a 6, .inl (g.2 0, 6, .inl (va_cpy (f2 6) (f 6) 0 0 6))), (a 7, .inl (g.2 0, 6, .inl (va_cpy (f2 7) (f 7) 0 0 6))), (a 8, .inl (g.2 0, 6, .inl (va_cpy (f2 8) (f 8) 0 0 6))), (a 9, .inl (g.2 0, 6, .inl (f 9))), (a 10, .inl (g.2 0, 8, .inl (f 10)))], bTown g o2 a2 pe2 wo2 tx2 ch2 jo2 tr2 dy2 sd2 f2]) H := hP
  have hD : va_D A (List.flatten [[(o, .inr (7, [.int pe2, .int wo2, .int tx2, .int ch2, .int jo2, .int tr2, .int dy2, .int sd2, .ref (a 0), .ref (a 1), .ref (a 2), .ref (a 3), .ref (a 4), .ref (a 5), .ref (a 6), .ref (a 7), .ref (a 8), .ref (a 9), .ref (a 10)])), (a 0, .inl (g.2 0, 8, .inl (va_cpy (f2 0) (f 0) 0 0 8))), (a 1, .inl (g.2 0, 8, .inl (va_cpy (f2 1) (f 1) 0 0 8))), (a 2, .inl (g.2 0, 8, .inl (va_cpy (f2 2) (f 2) 0 0 8))), (a 3, .inl (g.2 0, 8, .inl (va_cpy (f2 3) (f 3) 0 0 8))), (a 4, .inl (g.2 1, 8, .inl (va_cpy (f2 4) (f 4) 0 0 8))), (a 5, .inl (g.2 0, 64, .inl (va_cpy (f2 5) (f 5) 0 0 64))), (a 6, .inl (g.2 0, 6, .inl (va_cpy (f2 6) (f 6) 0 0 6))), (a 7, .inl (g.2 0, 6, .inl (va_cpy (f2 7) (f 7) 0 0 6))), (a 8, .inl (g.2 0, 6, .inl (va_cpy (f2 8) (f 8) 0 0 6))), (a 9, .inl (g.2 0, 6, .inl (f 9))), (a 10, .inl (g.2 0, 8, .inl (f 10)))], bTown g o2 a2 pe2 wo2 tx2 ch2 jo2 tr2 dy2 sd2 f2]) := hD
  refine lv_aload_n hx hb dX9_copyFrom_199 rfl (lv_at hl 1 rfl) ?_
  refine va_get (D := g.1) (ci := 7) (v := .ref (a2 9)) (C := RX9) (T := TX9) (N := 19) hx hb hts izRX9 hown hK hP 12 rfl rfl 17 (by decide) (hts _ k19) (fun _ h9 => h9) rfl dX9_copyFrom_200 ?_
  refine lv_iconst (v := 0) hx hb dX9_copyFrom_203 (by decide) ?_
  refine lv_aload_n hx hb dX9_copyFrom_204 rfl (lv_at hl 0 rfl) ?_
  refine va_get (D := g.1) (ci := 7) (v := .ref (a 9)) (C := RX9) (T := TX9) (N := 19) hx hb hts izRX9 hown hK hP 0 rfl rfl 17 (by decide) (hts _ k19) (fun _ h9 => h9) rfl dX9_copyFrom_205 ?_
  refine lv_iconst (v := 0) hx hb dX9_copyFrom_208 (by decide) ?_
  refine lv_bipush (v := 6) hx hb dX9_copyFrom_209 (by decide) ?_
  refine va_copyi (D := g.1) (ty := .int) hx hb (by rw [hml]; exact hl.1.symm) hown (hts _ k35) (hts _ k36) (hts _ k37) (hts _ k38) hK hP hD hS 22 10 0 0 rfl rfl rfl rfl rfl (by decide) (by decide) (by decide) (by decide) (by decide) (fun _ _ => rfl) (Nat.le_of_ble_eq_true rfl) (by decide) dX9_copyFrom_211 (fun H locs hP hD hS => ?_)
  have hP : va_P g.1 vwCl (List.flatten [[(o, .inr (7, [.int pe2, .int wo2, .int tx2, .int ch2, .int jo2, .int tr2, .int dy2, .int sd2, .ref (a 0), .ref (a 1), .ref (a 2), .ref (a 3), .ref (a 4), .ref (a 5), .ref (a 6), .ref (a 7), .ref (a 8), .ref (a 9), .ref (a 10)])), (a 0, .inl (g.2 0, 8, .inl (va_cpy (f2 0) (f 0) 0 0 8))), (a 1, .inl (g.2 0, 8, .inl (va_cpy (f2 1) (f 1) 0 0 8))), (a 2, .inl (g.2 0, 8, .inl (va_cpy (f2 2) (f 2) 0 0 8))), (a 3, .inl (g.2 0, 8, .inl (va_cpy (f2 3) (f 3) 0 0 8))), (a 4, .inl (g.2 1, 8, .inl (va_cpy (f2 4) (f 4) 0 0 8))), (a 5, .inl (g.2 0, 64, .inl (va_cpy (f2 5) (f 5) 0 0 64))), (a 6, .inl (g.2 0, 6, .inl (va_cpy (f2 6) (f 6) 0 0 6))), (a 7, .inl (g.2 0, 6, .inl (va_cpy (f2 7) (f 7) 0 0 6))), (a 8, .inl (g.2 0, 6, .inl (va_cpy (f2 8) (f 8) 0 0 6))), (a 9, .inl (g.2 0, 6, .inl (va_cpy (f2 9) (f 9) 0 0 6))), (a 10, .inl (g.2 0, 8, .inl (f 10)))], bTown g o2 a2 pe2 wo2 tx2 ch2 jo2 tr2 dy2 sd2 f2]) H := hP
  have hD : va_D A (List.flatten [[(o, .inr (7, [.int pe2, .int wo2, .int tx2, .int ch2, .int jo2, .int tr2, .int dy2, .int sd2, .ref (a 0), .ref (a 1), .ref (a 2), .ref (a 3), .ref (a 4), .ref (a 5), .ref (a 6), .ref (a 7), .ref (a 8), .ref (a 9), .ref (a 10)])), (a 0, .inl (g.2 0, 8, .inl (va_cpy (f2 0) (f 0) 0 0 8))), (a 1, .inl (g.2 0, 8, .inl (va_cpy (f2 1) (f 1) 0 0 8))), (a 2, .inl (g.2 0, 8, .inl (va_cpy (f2 2) (f 2) 0 0 8))), (a 3, .inl (g.2 0, 8, .inl (va_cpy (f2 3) (f 3) 0 0 8))), (a 4, .inl (g.2 1, 8, .inl (va_cpy (f2 4) (f 4) 0 0 8))), (a 5, .inl (g.2 0, 64, .inl (va_cpy (f2 5) (f 5) 0 0 64))), (a 6, .inl (g.2 0, 6, .inl (va_cpy (f2 6) (f 6) 0 0 6))), (a 7, .inl (g.2 0, 6, .inl (va_cpy (f2 7) (f 7) 0 0 6))), (a 8, .inl (g.2 0, 6, .inl (va_cpy (f2 8) (f 8) 0 0 6))), (a 9, .inl (g.2 0, 6, .inl (va_cpy (f2 9) (f 9) 0 0 6))), (a 10, .inl (g.2 0, 8, .inl (f 10)))], bTown g o2 a2 pe2 wo2 tx2 ch2 jo2 tr2 dy2 sd2 f2]) := hD
  have hP : va_P g.1 vwCl (List.flatten [bTown g o a pe2 wo2 tx2 ch2 jo2 tr2 dy2 sd2 (zf [va_cpy (f2 0) (f 0) 0 0 8, va_cpy (f2 1) (f 1) 0 0 8, va_cpy (f2 2) (f 2) 0 0 8, va_cpy (f2 3) (f 3) 0 0 8, va_cpy (f2 4) (f 4) 0 0 8, va_cpy (f2 5) (f 5) 0 0 64, va_cpy (f2 6) (f 6) 0 0 6, va_cpy (f2 7) (f 7) 0 0 6, va_cpy (f2 8) (f 8) 0 0 6, va_cpy (f2 9) (f 9) 0 0 6, f 10]), bTown g o2 a2 pe2 wo2 tx2 ch2 jo2 tr2 dy2 sd2 f2]) H := hP
  have hD : va_D A (List.flatten [bTown g o a pe2 wo2 tx2 ch2 jo2 tr2 dy2 sd2 (zf [va_cpy (f2 0) (f 0) 0 0 8, va_cpy (f2 1) (f 1) 0 0 8, va_cpy (f2 2) (f 2) 0 0 8, va_cpy (f2 3) (f 3) 0 0 8, va_cpy (f2 4) (f 4) 0 0 8, va_cpy (f2 5) (f 5) 0 0 64, va_cpy (f2 6) (f 6) 0 0 6, va_cpy (f2 7) (f 7) 0 0 6, va_cpy (f2 8) (f 8) 0 0 6, va_cpy (f2 9) (f 9) 0 0 6, f 10]), bTown g o2 a2 pe2 wo2 tx2 ch2 jo2 tr2 dy2 sd2 f2]) := hD
  exact mret_v hx hb hr hlocks hS (Nat.le_of_ble_eq_true rfl) (Nat.le_of_ble_eq_true rfl) dX9_copyFrom_214 (zf [va_cpy (f2 0) (f 0) 0 0 8, va_cpy (f2 1) (f 1) 0 0 8, va_cpy (f2 2) (f 2) 0 0 8, va_cpy (f2 3) (f 3) 0 0 8, va_cpy (f2 4) (f 4) 0 0 8, va_cpy (f2 5) (f 5) 0 0 64, va_cpy (f2 6) (f 6) 0 0 6, va_cpy (f2 7) (f 7) 0 0 6, va_cpy (f2 8) (f 8) 0 0 6, va_cpy (f2 9) (f 9) 0 0 6, f 10]) rfl (show (zZ4 (zf [va_cpy (f2 0) (f 0) 0 0 8, va_cpy (f2 1) (f 1) 0 0 8, va_cpy (f2 2) (f 2) 0 0 8, va_cpy (f2 3) (f 3) 0 0 8, va_cpy (f2 4) (f 4) 0 0 8, va_cpy (f2 5) (f 5) 0 0 64, va_cpy (f2 6) (f 6) 0 0 6, va_cpy (f2 7) (f 7) 0 0 6, va_cpy (f2 8) (f 8) 0 0 6, va_cpy (f2 9) (f 9) 0 0 6, f 10])) from (zZc rf2)) hP hD
set_option maxRecDepth 100000 in
set_option maxHeartbeats 4000000 in
theorem c_addPerson (l : Launch) (g : zG) (o : Nat) (a : Nat → Nat) (pe : Int32) (wo : Int32) (tx : Int32) (ch : Int32) (jo : Int32) (tr : Int32) (dy : Int32) (sd : Int32) (f : Nat → Nat → Int32) (be : Int32) (ha : Int32) (di : Int32) (b_pe : 0 ≤ pe.toInt ∧ pe.toInt ≤ 8) (b_wo : 0 ≤ wo.toInt ∧ wo.toInt ≤ 6) (rf : zZ4 f) (hdi : di = 0 ∨ di = 1) : zM' g l yX9_addPerson (Cond.code yX9_addPerson cX9_addPerson 6 none :: zB) ({ frames := 1, cells := 0, slots := 0, locals := 23 } : Room) [.ref o, .int be, .int ha, .int di] [bTown g o a pe wo tx ch jo tr dy sd f] (fun u : Int32 × (Nat → Nat → Int32) => (fun (pe2 : Int32) (f2 : Nat → Nat → Int32) => none) (u.1) (u.2)) (fun u : Int32 × (Nat → Nat → Int32) => (fun (pe2 : Int32) (f2 : Nat → Nat → Int32) => (0 ≤ pe2.toInt ∧ pe2.toInt ≤ 8) ∧ (zZ4 f2)) (u.1) (u.2)) (fun u : Int32 × (Nat → Nat → Int32) => (fun (pe2 : Int32) (f2 : Nat → Nat → Int32) => [bTown g o a pe2 wo tx ch jo tr dy sd f2]) (u.1) (u.2)) := by
  refine zM'.of (cc := cX9_addPerson) (maxL := 6) (rt := none) (by decide) rfl (Nat.le_of_ble_eq_true rfl) ?_
  intro p e s m args below meth c A ls St hr hlocks hin hK hT hA hP hD hS hl
  obtain ⟨hx, hb, hml, hown, hts⟩ := id St
  have hl : lv_has ls 6 [(0, .ref o), (1, .int be), (2, .int ha), (3, .int di)] := hl
  refine lv_aload_n hx hb dX9_addPerson_0 rfl (lv_at hl 0 rfl) ?_
  refine va_get (D := g.1) (ci := 7) (v := .int pe) (C := RX9) (T := TX9) (N := 19) hx hb hts izRX9 hown hK hP 0 rfl rfl 0 (by decide) (hts _ k31) (fun _ h9 => h9) rfl dX9_addPerson_1 ?_
  refine lv_istore (lv' := [(4, .int pe), (0, .ref o), (1, .int be), (2, .int ha), (3, .int di)]) hx hb dX9_addPerson_4 hl (by decide) rfl (fun ls hl => ?_)
  refine lv_iload hx hb dX9_addPerson_6 (lv_at hl 0 rfl) ?_
  refine lv_bipush (v := 8) hx hb dX9_addPerson_8 (by decide) ?_
  refine lv_icmp_lt (tgt := 14) hx hb dX9_addPerson_10 (by decide) (fun cb9 => ?_) (fun cb9 => ?_)
  · skip
    have c1 : pe.toInt < 8 := zlti cb9 rfl (by decide)
    have n2 : pe.toInt ≤ 7 := zL1 (b := 8) c1 (Int.le_refl _) (by decide)
    refine lv_aload_n hx hb dX9_addPerson_14 rfl (lv_at hl 1 rfl) ?_
    refine lv_dup hx hb dX9_addPerson_15 rfl ?_
    refine va_get (D := g.1) (ci := 7) (v := .int pe) (C := RX9) (T := TX9) (N := 19) hx hb hts izRX9 hown hK hP 0 rfl rfl 0 (by decide) (hts _ k31) (fun _ h9 => h9) rfl dX9_addPerson_16 ?_
    refine lv_iconst (v := 1) hx hb dX9_addPerson_19 (by decide) ?_
    refine lv_iadd hx hb dX9_addPerson_20 ?_
    refine zg3 (zaddK (i := pe.toInt) (j := 1) (a' := 1) (b' := 8) rfl (by decide) b_pe.1 n2 (Int.le_refl _) (Int.le_refl _) (by decide)) (fun x_3 hx_3 => ?_)
    refine va_put (D := g.1) (ci := 7) (v := .int x_3) (ty := .int) (C := RX9) (T := TX9) (N := 19) hx hb hts izRX9 tyX9 tyX9_ok nmX9 hown hK hP hD hS 0 rfl rfl 0 (by decide) (hts _ k31) (fun _ h9 => h9) rfl (by decide +kernel) rfl rfl (Nat.le_of_ble_eq_true rfl) dX9_addPerson_21 (fun H locs hP hD hS => ?_)
    have hP : va_P g.1 vwCl (List.flatten [bTown g o a x_3 wo tx ch jo tr dy sd f]) H := hP
    have hD : va_D A (List.flatten [bTown g o a x_3 wo tx ch jo tr dy sd f]) := hD
    refine lv_aload_n hx hb dX9_addPerson_24 rfl (lv_at hl 1 rfl) ?_
    refine va_get (D := g.1) (ci := 7) (v := .ref (a 0)) (C := RX9) (T := TX9) (N := 19) hx hb hts izRX9 hown hK hP 0 rfl rfl 8 (by decide) (hts _ k9) (fun _ h9 => h9) rfl dX9_addPerson_25 ?_
    refine lv_iload hx hb dX9_addPerson_28 (lv_at hl 0 rfl) ?_
    refine lv_iload_n hx hb dX9_addPerson_30 rfl (lv_at hl 2 rfl) ?_
    refine va_iast hx hb hK hP hD hS 1 0 rfl rfl (zinK (a := 0) (b := 7) b_pe.1 n2 (by decide)) dX9_addPerson_31 (fun H locs hP hD hS => ?_)
    obtain ⟨f4, rf4, hP, hD⟩ : ∃ f4 : Nat → Nat → Int32, zZ4 f4 ∧ va_P g.1 vwCl (List.flatten [bTown g o a x_3 wo tx ch jo tr dy sd f4]) H ∧ va_D A (List.flatten [bTown g o a x_3 wo tx ch jo tr dy sd f4]) := ⟨zu f 0 (upd (f 0) pe.toNatClampNeg be), (zZ4_u rf (by decide)), hP, hD⟩
    refine lv_aload_n hx hb dX9_addPerson_32 rfl (lv_at hl 1 rfl) ?_
    refine va_get (D := g.1) (ci := 7) (v := .ref (a 1)) (C := RX9) (T := TX9) (N := 19) hx hb hts izRX9 hown hK hP 0 rfl rfl 9 (by decide) (hts _ k10) (fun _ h9 => h9) rfl dX9_addPerson_33 ?_
    refine lv_iload hx hb dX9_addPerson_36 (lv_at hl 0 rfl) ?_
    refine lv_iload_n hx hb dX9_addPerson_38 rfl (lv_at hl 3 rfl) ?_
    refine va_iast hx hb hK hP hD hS 2 0 rfl rfl (zinK (a := 0) (b := 7) b_pe.1 n2 (by decide)) dX9_addPerson_39 (fun H locs hP hD hS => ?_)
    obtain ⟨f5, rf5, hP, hD⟩ : ∃ f5 : Nat → Nat → Int32, zZ4 f5 ∧ va_P g.1 vwCl (List.flatten [bTown g o a x_3 wo tx ch jo tr dy sd f5]) H ∧ va_D A (List.flatten [bTown g o a x_3 wo tx ch jo tr dy sd f5]) := ⟨zu f4 1 (upd (f4 1) pe.toNatClampNeg ha), (zZ4_u rf4 (by decide)), hP, hD⟩
    refine lv_aload_n hx hb dX9_addPerson_40 rfl (lv_at hl 1 rfl) ?_
    refine va_get (D := g.1) (ci := 7) (v := .ref (a 2)) (C := RX9) (T := TX9) (N := 19) hx hb hts izRX9 hown hK hP 0 rfl rfl 10 (by decide) (hts _ k11) (fun _ h9 => h9) rfl dX9_addPerson_41 ?_
    refine lv_iload hx hb dX9_addPerson_44 (lv_at hl 0 rfl) ?_
    refine lv_iconst (v := 0) hx hb dX9_addPerson_46 (by decide) ?_
    refine va_iast hx hb hK hP hD hS 3 0 rfl rfl (zinK (a := 0) (b := 7) b_pe.1 n2 (by decide)) dX9_addPerson_47 (fun H locs hP hD hS => ?_)
    obtain ⟨f6, rf6, hP, hD⟩ : ∃ f6 : Nat → Nat → Int32, zZ4 f6 ∧ va_P g.1 vwCl (List.flatten [bTown g o a x_3 wo tx ch jo tr dy sd f6]) H ∧ va_D A (List.flatten [bTown g o a x_3 wo tx ch jo tr dy sd f6]) := ⟨zu f5 2 (upd (f5 2) pe.toNatClampNeg 0), (zZ4_u rf5 (by decide)), hP, hD⟩
    refine lv_aload_n hx hb dX9_addPerson_48 rfl (lv_at hl 1 rfl) ?_
    refine va_get (D := g.1) (ci := 7) (v := .ref (a 3)) (C := RX9) (T := TX9) (N := 19) hx hb hts izRX9 hown hK hP 0 rfl rfl 11 (by decide) (hts _ k12) (fun _ h9 => h9) rfl dX9_addPerson_49 ?_
    refine lv_iload hx hb dX9_addPerson_52 (lv_at hl 0 rfl) ?_
    refine lv_iconst (v := (-1)) hx hb dX9_addPerson_54 (by decide) ?_
    refine va_iast hx hb hK hP hD hS 4 0 rfl rfl (zinK (a := 0) (b := 7) b_pe.1 n2 (by decide)) dX9_addPerson_55 (fun H locs hP hD hS => ?_)
    obtain ⟨f7, rf7, hP, hD⟩ : ∃ f7 : Nat → Nat → Int32, zZ4 f7 ∧ va_P g.1 vwCl (List.flatten [bTown g o a x_3 wo tx ch jo tr dy sd f7]) H ∧ va_D A (List.flatten [bTown g o a x_3 wo tx ch jo tr dy sd f7]) := ⟨zu f6 3 (upd (f6 3) pe.toNatClampNeg (-1)), (zZ4_u rf6 (by decide)), hP, hD⟩
    refine lv_aload_n hx hb dX9_addPerson_56 rfl (lv_at hl 1 rfl) ?_
    refine va_get (D := g.1) (ci := 7) (v := .ref (a 4)) (C := RX9) (T := TX9) (N := 19) hx hb hts izRX9 hown hK hP 0 rfl rfl 12 (by decide) (hts _ k14) (fun _ h9 => h9) rfl dX9_addPerson_57 ?_
    refine lv_iload hx hb dX9_addPerson_60 (lv_at hl 0 rfl) ?_
    refine lv_iload_n hx hb dX9_addPerson_62 rfl (lv_at hl 4 rfl) ?_
    refine va_zast hx hb hK hP hD hS 5 1 rfl rfl (zinK (a := 0) (b := 7) b_pe.1 n2 (by decide)) dX9_addPerson_63 (fun H locs hP hD hS => ?_)
    obtain ⟨f8, rf8, hP, hD⟩ : ∃ f8 : Nat → Nat → Int32, zZ4 f8 ∧ va_P g.1 vwCl (List.flatten [bTown g o a x_3 wo tx ch jo tr dy sd f8]) H ∧ va_D A (List.flatten [bTown g o a x_3 wo tx ch jo tr dy sd f8]) := ⟨zu f7 4 (upd (f7 4) pe.toNatClampNeg (vp_nar .boolean di)), (zZ4_s rf7 (by first | assumption | decide | omega)), hP, hD⟩
    refine lv_iconst (v := 0) hx hb dX9_addPerson_64 (by decide) ?_
    refine lv_istore (lv' := [(5, .int 0), (4, .int pe), (0, .ref o), (1, .int be), (2, .int ha), (3, .int di)]) hx hb dX9_addPerson_65 hl (by decide) rfl (fun ls hl => ?_)
    have hl := lv_sub (l' := [(0, .ref o), (1, .int be), (2, .int ha), (3, .int di), (4, .int pe), (5, .int 0)]) hl [2, 3, 4, 5, 1, 0] rfl
    have LP67_12 : ∀ (kf : Nat) (x_9 : Int32) (f_10 : Nat → Nat → Int32), (0 ≤ x_9.toInt ∧ x_9.toInt ≤ 8) → (zZ4 f_10) → ∀ (H : Heap) (locs : List Loc) (ls : Array Slot), ((9 - x_9.toInt).toNat) < kf → va_P g.1 vwCl (List.flatten [bTown g o a x_3 wo tx ch jo tr dy sd f_10]) H → va_D A (List.flatten [bTown g o a x_3 wo tx ch jo tr dy sd f_10]) → va_S A s.heap H locs → lv_has ls 6 [(0, .ref o), (1, .int be), (2, .int ha), (3, .int di), (4, .int pe), (5, .int x_9)] → W p l e ({ frames := 1, cells := 0, slots := 0, locals := 23 } : Room) s m args below meth c H locs (0) (0) (zF g (fun u : Int32 × (Nat → Nat → Int32) => (fun (pe2 : Int32) (f2 : Nat → Nat → Int32) => none) (u.1) (u.2)) (fun u : Int32 × (Nat → Nat → Int32) => (fun (pe2 : Int32) (f2 : Nat → Nat → Int32) => (0 ≤ pe2.toInt ∧ pe2.toInt ≤ 8) ∧ (zZ4 f2)) (u.1) (u.2)) (fun u : Int32 × (Nat → Nat → Int32) => (fun (pe2 : Int32) (f2 : Nat → Nat → Int32) => [bTown g o a pe2 wo tx ch jo tr dy sd f2]) (u.1) (u.2)) ({ frames := 1, cells := 0, slots := 0, locals := 23 } : Room) below args s A) (F0 m 67 ls []) := by
      intro kf
      induction kf with
      | zero => intro x_9 f_10 i11 rf_10 H locs ls hk; exact absurd hk (Nat.not_lt_zero _)
      | succ kf ih67_13 =>
        intro x_9 f_10 i11 rf_10 H locs ls hk67_13 hP hD hS hl
        refine lv_iload hx hb dX9_addPerson_67 (lv_at hl 5 rfl) ?_
        refine lv_bipush (v := 8) hx hb dX9_addPerson_69 (by decide) ?_
        refine lv_icmp_ge (tgt := 98) hx hb dX9_addPerson_71 (by decide) (fun cb9 => ?_) (fun cb9 => ?_)
        · skip
          have c14 : 8 ≤ x_9.toInt := zle cb9 (by decide) rfl
          have n15 : 8 ≤ x_9.toInt := Int.le_trans (Int.le_refl _) c14
          have hP : va_P g.1 vwCl (List.flatten [bTown g o a x_3 wo tx ch jo tr dy sd f_10]) H := hP
          have hD : va_D A (List.flatten [bTown g o a x_3 wo tx ch jo tr dy sd f_10]) := hD
          exact mret_v hx hb hr hlocks hS (Nat.le_of_ble_eq_true rfl) (Nat.le_of_ble_eq_true rfl) dX9_addPerson_98 (x_3, f_10) rfl (show (0 ≤ x_3.toInt ∧ x_3.toInt ≤ 8) ∧ (zZ4 f_10) from ⟨(by first | assumption | omega | decide | exact rfl | exact zb01 (by omega) | exact Or.inl (by decide) | exact Or.inr (by first | omega | decide)), rf_10⟩) hP hD
        · skip
          have c16 : x_9.toInt < 8 := zlti (Int32.not_le.mp cb9) rfl (by decide)
          have n17 : x_9.toInt ≤ 7 := zL1 (b := 8) c16 (Int.le_refl _) (by decide)
          refine lv_aload_n hx hb dX9_addPerson_74 rfl (lv_at hl 0 rfl) ?_
          refine lv_iload hx hb dX9_addPerson_75 (lv_at hl 4 rfl) ?_
          refine lv_iload hx hb dX9_addPerson_77 (lv_at hl 5 rfl) ?_
          refine lv_iconst (v := 0) hx hb dX9_addPerson_79 (by decide) ?_
          refine mcallV' (g := g) (q0 := 0) (ci := 7) (As := [.int pe, .int x_9, .int 0]) (rest := []) St hK hT hA hP hD hS hl.1 [0] [] rfl rfl rfl (c_setTrust l g o a x_3 wo tx ch jo tr dy sd f_10 pe x_9 0 rf_10 (⟨b_pe.1, n2⟩) (⟨i11.1, n17⟩)) (cwV 3 hts (zgL (zl4 k436 k437 k438 k24) k434) rfl rfl rfl (by decide +kernel) ⟨Nat.le_of_ble_eq_true rfl, Nat.le_of_ble_eq_true rfl⟩) rfl rfl rfl rfl (Nat.le_of_ble_eq_true rfl) dX9_addPerson_80 ⟨(Nat.le_of_ble_eq_true rfl), (Nat.le_of_ble_eq_true rfl)⟩ (fun f2_18 H locs hq19 hP hD hS => ?_)
          replace hq19 : (zZ4 f2_18) := hq19
          have hP : va_P g.1 vwCl (List.flatten [bTown g o a x_3 wo tx ch jo tr dy sd f2_18]) H := hP
          have hD : va_D A (List.flatten [bTown g o a x_3 wo tx ch jo tr dy sd f2_18]) := hD
          refine W.widen (k := 0) (n := 0) (Nat.le_of_ble_eq_true rfl) (Nat.le_of_ble_eq_true rfl) ?_
          refine W.eq (g2 := F0 m 83 ls []) rfl ?_
          have rf2_18 := hq19; clear hq19
          refine lv_aload_n hx hb dX9_addPerson_83 rfl (lv_at hl 0 rfl) ?_
          refine lv_iload hx hb dX9_addPerson_84 (lv_at hl 5 rfl) ?_
          refine lv_iload hx hb dX9_addPerson_86 (lv_at hl 4 rfl) ?_
          refine lv_iconst (v := 0) hx hb dX9_addPerson_88 (by decide) ?_
          refine mcallV' (g := g) (q0 := 0) (ci := 7) (As := [.int x_9, .int pe, .int 0]) (rest := []) St hK hT hA hP hD hS hl.1 [0] [] rfl rfl rfl (c_setTrust l g o a x_3 wo tx ch jo tr dy sd f2_18 x_9 pe 0 rf2_18 (⟨i11.1, n17⟩) (⟨b_pe.1, n2⟩)) (cwV 3 hts (zgL (zl4 k436 k437 k438 k24) k434) rfl rfl rfl (by decide +kernel) ⟨Nat.le_of_ble_eq_true rfl, Nat.le_of_ble_eq_true rfl⟩) rfl rfl rfl rfl (Nat.le_of_ble_eq_true rfl) dX9_addPerson_89 ⟨(Nat.le_of_ble_eq_true rfl), (Nat.le_of_ble_eq_true rfl)⟩ (fun f2_20 H locs hq21 hP hD hS => ?_)
          replace hq21 : (zZ4 f2_20) := hq21
          have hP : va_P g.1 vwCl (List.flatten [bTown g o a x_3 wo tx ch jo tr dy sd f2_20]) H := hP
          have hD : va_D A (List.flatten [bTown g o a x_3 wo tx ch jo tr dy sd f2_20]) := hD
          refine W.widen (k := 0) (n := 0) (Nat.le_of_ble_eq_true rfl) (Nat.le_of_ble_eq_true rfl) ?_
          refine W.eq (g2 := F0 m 92 ls []) rfl ?_
          have rf2_20 := hq21; clear hq21
          refine ziinc3 (n' := 1) (a' := 1) (b' := 8) (lv' := fun v9 => [(5, .int v9), (0, .ref o), (1, .int be), (2, .int ha), (3, .int di), (4, .int pe)]) hx hb dX9_addPerson_92 hl (k := 5) rfl (by decide) (fun _ => rfl) (zaddK (i := x_9.toInt) (j := 1) rfl (by decide) i11.1 n17 (Int.le_refl _) (Int.le_refl _) (by decide)) (fun x_22 ls hx_22 hl => ?_)
          refine lv_goto (tgt := 67) hx hb dX9_addPerson_95 (by decide) ?_
          have hl := lv_sub (l' := [(0, .ref o), (1, .int be), (2, .int ha), (3, .int di), (4, .int pe), (5, .int x_22)]) hl [1, 2, 3, 4, 5, 0] rfl
          have hP : va_P g.1 vwCl (List.flatten [bTown g o a x_3 wo tx ch jo tr dy sd f2_20]) H := hP
          have hD : va_D A (List.flatten [bTown g o a x_3 wo tx ch jo tr dy sd f2_20]) := hD
          exact ih67_13 x_22 f2_20 ⟨(Int.le_trans (by decide) hx_22.2.1), hx_22.2.2⟩ rf2_20 H _ ls (zmK hx_22.1 (by decide) n17 (by decide) hk67_13)  hP hD hS (lv_sub hl [0, 1, 2, 3, 4, 5] rfl)
    have hP : va_P g.1 vwCl (List.flatten [bTown g o a x_3 wo tx ch jo tr dy sd f8]) H := hP
    have hD : va_D A (List.flatten [bTown g o a x_3 wo tx ch jo tr dy sd f8]) := hD
    exact LP67_12 _ 0 f8 (by decide) rf8 H _ ls (Nat.lt_succ_self _)  hP hD hS (lv_sub hl [0, 1, 2, 3, 4, 5] rfl)
  · skip
    have c23 : 8 ≤ pe.toInt := zle (Int32.not_lt.mp cb9) (by decide) rfl
    have n24 : 8 ≤ pe.toInt := Int.le_trans (Int.le_refl _) c23
    have hP : va_P g.1 vwCl (List.flatten [bTown g o a pe wo tx ch jo tr dy sd f]) s.heap := hP
    have hD : va_D A (List.flatten [bTown g o a pe wo tx ch jo tr dy sd f]) := hD
    exact mret_v hx hb hr hlocks hS (Nat.le_of_ble_eq_true rfl) (Nat.le_of_ble_eq_true rfl) dX9_addPerson_13 (pe, f) rfl (show (0 ≤ pe.toInt ∧ pe.toInt ≤ 8) ∧ (zZ4 f) from ⟨b_pe, rf⟩) hP hD
set_option maxRecDepth 100000 in
set_option maxHeartbeats 4000000 in
theorem c_addWork (l : Launch) (g : zG) (o : Nat) (a : Nat → Nat) (pe : Int32) (wo : Int32) (tx : Int32) (ch : Int32) (jo : Int32) (tr : Int32) (dy : Int32) (sd : Int32) (f : Nat → Nat → Int32) (co : Int32) (ne9 : Int32) (ga : Int32) (b_pe : 0 ≤ pe.toInt ∧ pe.toInt ≤ 8) (b_wo : 0 ≤ wo.toInt ∧ wo.toInt ≤ 6) (rf : zZ4 f) : zM' g l yX9_addWork (Cond.code yX9_addWork cX9_addWork 5 none :: zB) ({ frames := 0, cells := 0, slots := 0, locals := 0 } : Room) [.ref o, .int co, .int ne9, .int ga] [bTown g o a pe wo tx ch jo tr dy sd f] (fun u : Int32 × (Nat → Nat → Int32) => (fun (wo2 : Int32) (f2 : Nat → Nat → Int32) => none) (u.1) (u.2)) (fun u : Int32 × (Nat → Nat → Int32) => (fun (wo2 : Int32) (f2 : Nat → Nat → Int32) => (0 ≤ wo2.toInt ∧ wo2.toInt ≤ 6) ∧ (zZ4 f2)) (u.1) (u.2)) (fun u : Int32 × (Nat → Nat → Int32) => (fun (wo2 : Int32) (f2 : Nat → Nat → Int32) => [bTown g o a pe wo2 tx ch jo tr dy sd f2]) (u.1) (u.2)) := by
  refine zM'.of (cc := cX9_addWork) (maxL := 5) (rt := none) (by decide) rfl (Nat.le_of_ble_eq_true rfl) ?_
  intro p e s m args below meth c A ls St hr hlocks hin hK hT hA hP hD hS hl
  obtain ⟨hx, hb, hml, hown, hts⟩ := id St
  have hl : lv_has ls 5 [(0, .ref o), (1, .int co), (2, .int ne9), (3, .int ga)] := hl
  refine lv_aload_n hx hb dX9_addWork_0 rfl (lv_at hl 0 rfl) ?_
  refine va_get (D := g.1) (ci := 7) (v := .int wo) (C := RX9) (T := TX9) (N := 19) hx hb hts izRX9 hown hK hP 0 rfl rfl 1 (by decide) (hts _ k32) (fun _ h9 => h9) rfl dX9_addWork_1 ?_
  refine lv_istore (lv' := [(4, .int wo), (0, .ref o), (1, .int co), (2, .int ne9), (3, .int ga)]) hx hb dX9_addWork_4 hl (by decide) rfl (fun ls hl => ?_)
  refine lv_iload hx hb dX9_addWork_6 (lv_at hl 0 rfl) ?_
  refine lv_bipush (v := 6) hx hb dX9_addWork_8 (by decide) ?_
  refine lv_icmp_lt (tgt := 14) hx hb dX9_addWork_10 (by decide) (fun cb9 => ?_) (fun cb9 => ?_)
  · skip
    have c1 : wo.toInt < 6 := zlti cb9 rfl (by decide)
    have n2 : wo.toInt ≤ 5 := zL1 (b := 6) c1 (Int.le_refl _) (by decide)
    refine lv_aload_n hx hb dX9_addWork_14 rfl (lv_at hl 1 rfl) ?_
    refine lv_dup hx hb dX9_addWork_15 rfl ?_
    refine va_get (D := g.1) (ci := 7) (v := .int wo) (C := RX9) (T := TX9) (N := 19) hx hb hts izRX9 hown hK hP 0 rfl rfl 1 (by decide) (hts _ k32) (fun _ h9 => h9) rfl dX9_addWork_16 ?_
    refine lv_iconst (v := 1) hx hb dX9_addWork_19 (by decide) ?_
    refine lv_iadd hx hb dX9_addWork_20 ?_
    refine zg3 (zaddK (i := wo.toInt) (j := 1) (a' := 1) (b' := 6) rfl (by decide) b_wo.1 n2 (Int.le_refl _) (Int.le_refl _) (by decide)) (fun x_3 hx_3 => ?_)
    refine va_put (D := g.1) (ci := 7) (v := .int x_3) (ty := .int) (C := RX9) (T := TX9) (N := 19) hx hb hts izRX9 tyX9 tyX9_ok nmX9 hown hK hP hD hS 0 rfl rfl 1 (by decide) (hts _ k32) (fun _ h9 => h9) rfl (by decide +kernel) rfl rfl (Nat.le_of_ble_eq_true rfl) dX9_addWork_21 (fun H locs hP hD hS => ?_)
    have hP : va_P g.1 vwCl (List.flatten [bTown g o a pe x_3 tx ch jo tr dy sd f]) H := hP
    have hD : va_D A (List.flatten [bTown g o a pe x_3 tx ch jo tr dy sd f]) := hD
    refine lv_aload_n hx hb dX9_addWork_24 rfl (lv_at hl 1 rfl) ?_
    refine va_get (D := g.1) (ci := 7) (v := .ref (a 6)) (C := RX9) (T := TX9) (N := 19) hx hb hts izRX9 hown hK hP 0 rfl rfl 14 (by decide) (hts _ k16) (fun _ h9 => h9) rfl dX9_addWork_25 ?_
    refine lv_iload hx hb dX9_addWork_28 (lv_at hl 0 rfl) ?_
    refine lv_iload_n hx hb dX9_addWork_30 rfl (lv_at hl 2 rfl) ?_
    refine va_iast hx hb hK hP hD hS 7 0 rfl rfl (zinK (a := 0) (b := 5) b_wo.1 n2 (by decide)) dX9_addWork_31 (fun H locs hP hD hS => ?_)
    obtain ⟨f4, rf4, hP, hD⟩ : ∃ f4 : Nat → Nat → Int32, zZ4 f4 ∧ va_P g.1 vwCl (List.flatten [bTown g o a pe x_3 tx ch jo tr dy sd f4]) H ∧ va_D A (List.flatten [bTown g o a pe x_3 tx ch jo tr dy sd f4]) := ⟨zu f 6 (upd (f 6) wo.toNatClampNeg co), (zZ4_u rf (by decide)), hP, hD⟩
    refine lv_aload_n hx hb dX9_addWork_32 rfl (lv_at hl 1 rfl) ?_
    refine va_get (D := g.1) (ci := 7) (v := .ref (a 7)) (C := RX9) (T := TX9) (N := 19) hx hb hts izRX9 hown hK hP 0 rfl rfl 15 (by decide) (hts _ k17) (fun _ h9 => h9) rfl dX9_addWork_33 ?_
    refine lv_iload hx hb dX9_addWork_36 (lv_at hl 0 rfl) ?_
    refine lv_iload_n hx hb dX9_addWork_38 rfl (lv_at hl 3 rfl) ?_
    refine va_iast hx hb hK hP hD hS 8 0 rfl rfl (zinK (a := 0) (b := 5) b_wo.1 n2 (by decide)) dX9_addWork_39 (fun H locs hP hD hS => ?_)
    obtain ⟨f5, rf5, hP, hD⟩ : ∃ f5 : Nat → Nat → Int32, zZ4 f5 ∧ va_P g.1 vwCl (List.flatten [bTown g o a pe x_3 tx ch jo tr dy sd f5]) H ∧ va_D A (List.flatten [bTown g o a pe x_3 tx ch jo tr dy sd f5]) := ⟨zu f4 7 (upd (f4 7) wo.toNatClampNeg ne9), (zZ4_u rf4 (by decide)), hP, hD⟩
    refine lv_aload_n hx hb dX9_addWork_40 rfl (lv_at hl 1 rfl) ?_
    refine va_get (D := g.1) (ci := 7) (v := .ref (a 8)) (C := RX9) (T := TX9) (N := 19) hx hb hts izRX9 hown hK hP 0 rfl rfl 16 (by decide) (hts _ k18) (fun _ h9 => h9) rfl dX9_addWork_41 ?_
    refine lv_iload hx hb dX9_addWork_44 (lv_at hl 0 rfl) ?_
    refine lv_iload_n hx hb dX9_addWork_46 rfl (lv_at hl 4 rfl) ?_
    refine va_iast hx hb hK hP hD hS 9 0 rfl rfl (zinK (a := 0) (b := 5) b_wo.1 n2 (by decide)) dX9_addWork_47 (fun H locs hP hD hS => ?_)
    obtain ⟨f6, rf6, hP, hD⟩ : ∃ f6 : Nat → Nat → Int32, zZ4 f6 ∧ va_P g.1 vwCl (List.flatten [bTown g o a pe x_3 tx ch jo tr dy sd f6]) H ∧ va_D A (List.flatten [bTown g o a pe x_3 tx ch jo tr dy sd f6]) := ⟨zu f5 8 (upd (f5 8) wo.toNatClampNeg ga), (zZ4_u rf5 (by decide)), hP, hD⟩
    refine lv_aload_n hx hb dX9_addWork_48 rfl (lv_at hl 1 rfl) ?_
    refine va_get (D := g.1) (ci := 7) (v := .ref (a 9)) (C := RX9) (T := TX9) (N := 19) hx hb hts izRX9 hown hK hP 0 rfl rfl 17 (by decide) (hts _ k19) (fun _ h9 => h9) rfl dX9_addWork_49 ?_
    refine lv_iload hx hb dX9_addWork_52 (lv_at hl 0 rfl) ?_
    refine lv_iconst (v := 0) hx hb dX9_addWork_54 (by decide) ?_
    refine va_iast hx hb hK hP hD hS 10 0 rfl rfl (zinK (a := 0) (b := 5) b_wo.1 n2 (by decide)) dX9_addWork_55 (fun H locs hP hD hS => ?_)
    obtain ⟨f7, rf7, hP, hD⟩ : ∃ f7 : Nat → Nat → Int32, zZ4 f7 ∧ va_P g.1 vwCl (List.flatten [bTown g o a pe x_3 tx ch jo tr dy sd f7]) H ∧ va_D A (List.flatten [bTown g o a pe x_3 tx ch jo tr dy sd f7]) := ⟨zu f6 9 (upd (f6 9) wo.toNatClampNeg 0), (zZ4_u rf6 (by decide)), hP, hD⟩
    have hP : va_P g.1 vwCl (List.flatten [bTown g o a pe x_3 tx ch jo tr dy sd f7]) H := hP
    have hD : va_D A (List.flatten [bTown g o a pe x_3 tx ch jo tr dy sd f7]) := hD
    exact mret_v hx hb hr hlocks hS (Nat.le_of_ble_eq_true rfl) (Nat.le_of_ble_eq_true rfl) dX9_addWork_56 (x_3, f7) rfl (show (0 ≤ x_3.toInt ∧ x_3.toInt ≤ 6) ∧ (zZ4 f7) from ⟨(by first | assumption | omega | decide | exact rfl | exact zb01 (by omega) | exact Or.inl (by decide) | exact Or.inr (by first | omega | decide)), rf7⟩) hP hD
  · skip
    have c8 : 6 ≤ wo.toInt := zle (Int32.not_lt.mp cb9) (by decide) rfl
    have n9 : 6 ≤ wo.toInt := Int.le_trans (Int.le_refl _) c8
    have hP : va_P g.1 vwCl (List.flatten [bTown g o a pe wo tx ch jo tr dy sd f]) s.heap := hP
    have hD : va_D A (List.flatten [bTown g o a pe wo tx ch jo tr dy sd f]) := hD
    exact mret_v hx hb hr hlocks hS (Nat.le_of_ble_eq_true rfl) (Nat.le_of_ble_eq_true rfl) dX9_addWork_13 (wo, f) rfl (show (0 ≤ wo.toInt ∧ wo.toInt ≤ 6) ∧ (zZ4 f) from ⟨b_wo, rf⟩) hP hD
set_option maxRecDepth 100000 in
set_option maxHeartbeats 4000000 in
theorem c_draw (l : Launch) (g : zG) (o : Nat) (a : Nat → Nat) (pe : Int32) (wo : Int32) (tx : Int32) (ch : Int32) (jo : Int32) (tr : Int32) (dy : Int32) (sd : Int32) (f : Nat → Nat → Int32)  : zM' g l yX9_draw (Cond.code yX9_draw cX9_draw 1 (some .int) :: zB) ({ frames := 0, cells := 0, slots := 0, locals := 0 } : Room) [.ref o] [bTown g o a pe wo tx ch jo tr dy sd f] (fun u : Int32 × Int32 => (fun (sd2 : Int32) (q : Int32) => some (.int q)) (u.1) (u.2)) (fun u : Int32 × Int32 => (fun (sd2 : Int32) (q : Int32) => True) (u.1) (u.2)) (fun u : Int32 × Int32 => (fun (sd2 : Int32) (q : Int32) => [bTown g o a pe wo tx ch jo tr dy sd2 f]) (u.1) (u.2)) := by
  refine zM'.of (cc := cX9_draw) (maxL := 1) (rt := (some .int)) (by decide) rfl (Nat.le_of_ble_eq_true rfl) ?_
  intro p e s m args below meth c A ls St hr hlocks hin hK hT hA hP hD hS hl
  obtain ⟨hx, hb, hml, hown, hts⟩ := id St
  have hl : lv_has ls 1 [(0, .ref o)] := hl
  refine lv_aload_n hx hb dX9_draw_0 rfl (lv_at hl 0 rfl) ?_
  refine lv_ldc (v := 1103515245) hx hb hown (hts _ k130) dX9_draw_1 ?_
  refine lv_aload_n hx hb dX9_draw_3 rfl (lv_at hl 0 rfl) ?_
  refine va_get (D := g.1) (ci := 7) (v := .int sd) (C := RX9) (T := TX9) (N := 19) hx hb hts izRX9 hown hK hP 0 rfl rfl 7 (by decide) (hts _ k7) (fun _ h9 => h9) rfl dX9_draw_4 ?_
  refine lv_imul hx hb dX9_draw_7 ?_
  refine zg (fun x_1 => ?_)
  refine lv_sipush (v := 12345) hx hb dX9_draw_8 (by decide) ?_
  refine lv_iadd hx hb dX9_draw_11 ?_
  refine zg (fun x_2 => ?_)
  refine va_put (D := g.1) (ci := 7) (v := .int x_2) (ty := .int) (C := RX9) (T := TX9) (N := 19) hx hb hts izRX9 tyX9 tyX9_ok nmX9 hown hK hP hD hS 0 rfl rfl 7 (by decide) (hts _ k7) (fun _ h9 => h9) rfl (by decide +kernel) rfl rfl (Nat.le_of_ble_eq_true rfl) dX9_draw_12 (fun H locs hP hD hS => ?_)
  have hP : va_P g.1 vwCl (List.flatten [bTown g o a pe wo tx ch jo tr dy x_2 f]) H := hP
  have hD : va_D A (List.flatten [bTown g o a pe wo tx ch jo tr dy x_2 f]) := hD
  refine lv_aload_n hx hb dX9_draw_15 rfl (lv_at hl 0 rfl) ?_
  refine va_get (D := g.1) (ci := 7) (v := .int x_2) (C := RX9) (T := TX9) (N := 19) hx hb hts izRX9 hown hK hP 0 rfl rfl 7 (by decide) (hts _ k7) (fun _ h9 => h9) rfl dX9_draw_16 ?_
  refine lv_bipush (v := 16) hx hb dX9_draw_19 (by decide) ?_
  refine lv_ishr hx hb dX9_draw_21 ?_
  refine zg (fun x_3 => ?_)
  refine lv_sipush (v := 32767) hx hb dX9_draw_22 (by decide) ?_
  refine lv_iand hx hb dX9_draw_25 ?_
  refine zgb (zand32767 _) (fun x_4 hx_4 => ?_)
  have hP : va_P g.1 vwCl (List.flatten [bTown g o a pe wo tx ch jo tr dy x_2 f]) H := hP
  have hD : va_D A (List.flatten [bTown g o a pe wo tx ch jo tr dy x_2 f]) := hD
  exact mret_i hx hb hr hlocks hS (Nat.le_of_ble_eq_true rfl) (Nat.le_of_ble_eq_true rfl) dX9_draw_26 (x_2, x_4) rfl trivial hP hD
set_option maxRecDepth 100000 in
set_option maxHeartbeats 4000000 in
theorem c_spread (l : Launch) (g : zG) (o : Nat) (a : Nat → Nat) (pe : Int32) (wo : Int32) (tx : Int32) (ch : Int32) (jo : Int32) (tr : Int32) (dy : Int32) (sd : Int32) (f : Nat → Nat → Int32) (x1 : Int32) (wa : Int32) (b_pe : 0 ≤ pe.toInt ∧ pe.toInt ≤ 8) (b_wo : 0 ≤ wo.toInt ∧ wo.toInt ≤ 6) (rf : zZ4 f) (b_x1 : 0 ≤ x1.toInt ∧ x1.toInt ≤ 7) : zM' g l yX9_spread (Cond.code yX9_spread cX9_spread 4 none :: zB) ({ frames := 3, cells := 0, slots := 0, locals := 57 } : Room) [.ref o, .int x1, .int wa] [bTown g o a pe wo tx ch jo tr dy sd f] (fun (f2 : Nat → Nat → Int32) => none) (fun (f2 : Nat → Nat → Int32) => (zZ4 f2)) (fun (f2 : Nat → Nat → Int32) => [bTown g o a pe wo tx ch jo tr dy sd f2]) := by
  refine zM'.of (cc := cX9_spread) (maxL := 4) (rt := none) (by decide) rfl (Nat.le_of_ble_eq_true rfl) ?_
  intro p e s m args below meth c A ls St hr hlocks hin hK hT hA hP hD hS hl
  obtain ⟨hx, hb, hml, hown, hts⟩ := id St
  have hl : lv_has ls 4 [(0, .ref o), (1, .int x1), (2, .int wa)] := hl
  refine lv_iconst (v := 0) hx hb dX9_spread_0 (by decide) ?_
  refine lv_istore_n (lv' := [(3, .int 0), (0, .ref o), (1, .int x1), (2, .int wa)]) hx hb dX9_spread_1 rfl hl (by decide) rfl (fun ls hl => ?_)
  have hl := lv_sub (l' := [(0, .ref o), (1, .int x1), (2, .int wa), (3, .int 0)]) hl [1, 2, 3, 0] rfl
  have LP2_4 : ∀ (kf : Nat) (x_1 : Int32) (f_2 : Nat → Nat → Int32), (0 ≤ x_1.toInt ∧ x_1.toInt ≤ 8) → (zZ4 f_2) → ∀ (H : Heap) (locs : List Loc) (ls : Array Slot), ((9 - x_1.toInt).toNat) < kf → va_P g.1 vwCl (List.flatten [bTown g o a pe wo tx ch jo tr dy sd f_2]) H → va_D A (List.flatten [bTown g o a pe wo tx ch jo tr dy sd f_2]) → va_S A s.heap H locs → lv_has ls 4 [(0, .ref o), (1, .int x1), (2, .int wa), (3, .int x_1)] → W p l e ({ frames := 3, cells := 0, slots := 0, locals := 57 } : Room) s m args below meth c H locs (0) (0) (zF g (fun (f2 : Nat → Nat → Int32) => none) (fun (f2 : Nat → Nat → Int32) => (zZ4 f2)) (fun (f2 : Nat → Nat → Int32) => [bTown g o a pe wo tx ch jo tr dy sd f2]) ({ frames := 3, cells := 0, slots := 0, locals := 57 } : Room) below args s A) (F0 m 2 ls []) := by
    intro kf
    induction kf with
    | zero => intro x_1 f_2 i3 rf_2 H locs ls hk; exact absurd hk (Nat.not_lt_zero _)
    | succ kf ih2_5 =>
      intro x_1 f_2 i3 rf_2 H locs ls hk2_5 hP hD hS hl
      refine lv_iload_n hx hb dX9_spread_2 rfl (lv_at hl 3 rfl) ?_
      refine lv_aload_n hx hb dX9_spread_3 rfl (lv_at hl 0 rfl) ?_
      refine va_get (D := g.1) (ci := 7) (v := .int pe) (C := RX9) (T := TX9) (N := 19) hx hb hts izRX9 hown hK hP 0 rfl rfl 0 (by decide) (hts _ k31) (fun _ h9 => h9) rfl dX9_spread_4 ?_
      refine lv_icmp_ge (tgt := 54) hx hb dX9_spread_7 (by decide) (fun cb9 => ?_) (fun cb9 => ?_)
      · skip
        have c6 : pe.toInt ≤ x_1.toInt := zle cb9 rfl rfl
        refine lv_aload_n hx hb dX9_spread_54 rfl (lv_at hl 0 rfl) ?_
        refine va_get (D := g.1) (ci := 7) (v := .ref (a 0)) (C := RX9) (T := TX9) (N := 19) hx hb hts izRX9 hown hK hP 0 rfl rfl 8 (by decide) (hts _ k9) (fun _ h9 => h9) rfl dX9_spread_55 ?_
        refine lv_iload_n hx hb dX9_spread_58 rfl (lv_at hl 1 rfl) ?_
        refine lv_iload_n hx hb dX9_spread_59 rfl (lv_at hl 2 rfl) ?_
        refine lv_if_eq (tgt := 68) hx hb dX9_spread_60 (by decide) (fun cb9 => ?_) (fun cb9 => ?_)
        · skip
          have c7 : wa.toInt = 0 := zeq cb9 rfl (by decide)
          have n8 : 0 ≤ wa.toInt := Int.le_trans (Int.le_refl _) (Int.le_of_eq c7.symm)
          have n9 : wa.toInt ≤ 0 := Int.le_trans (Int.le_of_eq c7) (Int.le_refl _)
          refine lv_iconst (v := 0) hx hb dX9_spread_68 (by decide) ?_
          refine va_iast hx hb hK hP hD hS 1 0 rfl rfl (zinK (a := 0) (b := 7) b_x1.1 b_x1.2 (by decide)) dX9_spread_69 (fun H locs hP hD hS => ?_)
          obtain ⟨f10, rf10, hP, hD⟩ : ∃ f10 : Nat → Nat → Int32, zZ4 f10 ∧ va_P g.1 vwCl (List.flatten [bTown g o a pe wo tx ch jo tr dy sd f10]) H ∧ va_D A (List.flatten [bTown g o a pe wo tx ch jo tr dy sd f10]) := ⟨zu f_2 0 (upd (f_2 0) x1.toNatClampNeg 0), (zZ4_u rf_2 (by decide)), hP, hD⟩
          have hP : va_P g.1 vwCl (List.flatten [bTown g o a pe wo tx ch jo tr dy sd f10]) H := hP
          have hD : va_D A (List.flatten [bTown g o a pe wo tx ch jo tr dy sd f10]) := hD
          exact mret_v hx hb hr hlocks hS (Nat.le_of_ble_eq_true rfl) (Nat.le_of_ble_eq_true rfl) dX9_spread_70 (f10) rfl (show (zZ4 f10) from rf10) hP hD
        · skip
          have c11 : ¬ wa.toInt = 0 := zne cb9 rfl (by decide)
          refine lv_bipush (v := 99) hx hb dX9_spread_63 (by decide) ?_
          refine lv_goto (tgt := 69) hx hb dX9_spread_65 (by decide) ?_
          refine va_iast hx hb hK hP hD hS 1 0 rfl rfl (zinK (a := 0) (b := 7) b_x1.1 b_x1.2 (by decide)) dX9_spread_69 (fun H locs hP hD hS => ?_)
          obtain ⟨f12, rf12, hP, hD⟩ : ∃ f12 : Nat → Nat → Int32, zZ4 f12 ∧ va_P g.1 vwCl (List.flatten [bTown g o a pe wo tx ch jo tr dy sd f12]) H ∧ va_D A (List.flatten [bTown g o a pe wo tx ch jo tr dy sd f12]) := ⟨zu f_2 0 (upd (f_2 0) x1.toNatClampNeg 99), (zZ4_u rf_2 (by decide)), hP, hD⟩
          have hP : va_P g.1 vwCl (List.flatten [bTown g o a pe wo tx ch jo tr dy sd f12]) H := hP
          have hD : va_D A (List.flatten [bTown g o a pe wo tx ch jo tr dy sd f12]) := hD
          exact mret_v hx hb hr hlocks hS (Nat.le_of_ble_eq_true rfl) (Nat.le_of_ble_eq_true rfl) dX9_spread_70 (f12) rfl (show (zZ4 f12) from rf12) hP hD
      · skip
        have c13 : x_1.toInt < pe.toInt := zlti (Int32.not_le.mp cb9) rfl rfl
        have n14 : x_1.toInt ≤ 7 := zL1 (b := 8) c13 b_pe.2 (by decide)
        have n15 : 1 ≤ pe.toInt := zL2 (a := 0) c13 i3.1 (by decide)
        refine lv_iload_n hx hb dX9_spread_10 rfl (lv_at hl 3 rfl) ?_
        refine lv_iload_n hx hb dX9_spread_11 rfl (lv_at hl 1 rfl) ?_
        refine lv_icmp_eq (tgt := 48) hx hb dX9_spread_12 (by decide) (fun cb9 => ?_) (fun cb9 => ?_)
        · skip
          have c16 : x_1.toInt = x1.toInt := zeq cb9 rfl rfl
          refine ziinc3 (n' := 1) (a' := 1) (b' := 8) (lv' := fun v9 => [(3, .int v9), (0, .ref o), (1, .int x1), (2, .int wa)]) hx hb dX9_spread_48 hl (k := 3) rfl (by decide) (fun _ => rfl) (zaddK (i := x_1.toInt) (j := 1) rfl (by decide) i3.1 n14 (Int.le_refl _) (Int.le_refl _) (by decide)) (fun x_17 ls hx_17 hl => ?_)
          refine lv_goto (tgt := 2) hx hb dX9_spread_51 (by decide) ?_
          have hl := lv_sub (l' := [(0, .ref o), (1, .int x1), (2, .int wa), (3, .int x_17)]) hl [1, 2, 3, 0] rfl
          have hP : va_P g.1 vwCl (List.flatten [bTown g o a pe wo tx ch jo tr dy sd f_2]) H := hP
          have hD : va_D A (List.flatten [bTown g o a pe wo tx ch jo tr dy sd f_2]) := hD
          exact ih2_5 x_17 f_2 ⟨(Int.le_trans (by decide) hx_17.2.1), hx_17.2.2⟩ rf_2 H _ ls (zmK hx_17.1 (by decide) n14 (by decide) hk2_5)  hP hD hS (lv_sub hl [0, 1, 2, 3] rfl)
        · skip
          have c18 : ¬ x_1.toInt = x1.toInt := zne cb9 rfl rfl
          refine lv_aload_n hx hb dX9_spread_15 rfl (lv_at hl 0 rfl) ?_
          refine lv_iload_n hx hb dX9_spread_16 rfl (lv_at hl 3 rfl) ?_
          refine mcallV' (g := g) (q0 := 0) (ci := 7) (As := [.int x_1]) (rest := []) St hK hT hA hP hD hS hl.1 [0] [] rfl rfl rfl (c_isHere l g o a pe wo tx ch jo tr dy sd f_2 x_1 (⟨i3.1, n14⟩)) (cwV 1 hts (zgL (zl4 k53 k54 k55 k24) k51) rfl rfl rfl (by decide +kernel) ⟨Nat.le_of_ble_eq_true rfl, Nat.le_of_ble_eq_true rfl⟩) rfl rfl rfl rfl (Nat.le_of_ble_eq_true rfl) dX9_spread_17 ⟨(Nat.le_of_ble_eq_true rfl), (Nat.le_of_ble_eq_true rfl)⟩ (fun q_19 H locs hq20 hP hD hS => ?_)
          replace hq20 : (q_19 = 0 ∨ q_19 = 1) := hq20
          have hP : va_P g.1 vwCl (List.flatten [bTown g o a pe wo tx ch jo tr dy sd f_2]) H := hP
          have hD : va_D A (List.flatten [bTown g o a pe wo tx ch jo tr dy sd f_2]) := hD
          refine W.widen (k := 0) (n := 0) (Nat.le_of_ble_eq_true rfl) (Nat.le_of_ble_eq_true rfl) ?_
          refine W.eq (g2 := F0 m 20 ls [.int q_19]) rfl ?_
          rcases hq20 with rfl | rfl
          · skip
            refine lv_if_eq (tgt := 48) hx hb dX9_spread_20 (by decide) (fun _ => ?_) (fun c21 => absurd (by decide) c21)
            refine ziinc3 (n' := 1) (a' := 1) (b' := 8) (lv' := fun v9 => [(3, .int v9), (0, .ref o), (1, .int x1), (2, .int wa)]) hx hb dX9_spread_48 hl (k := 3) rfl (by decide) (fun _ => rfl) (zaddK (i := x_1.toInt) (j := 1) rfl (by decide) i3.1 n14 (Int.le_refl _) (Int.le_refl _) (by decide)) (fun x_22 ls hx_22 hl => ?_)
            refine lv_goto (tgt := 2) hx hb dX9_spread_51 (by decide) ?_
            have hl := lv_sub (l' := [(0, .ref o), (1, .int x1), (2, .int wa), (3, .int x_22)]) hl [1, 2, 3, 0] rfl
            have hP : va_P g.1 vwCl (List.flatten [bTown g o a pe wo tx ch jo tr dy sd f_2]) H := hP
            have hD : va_D A (List.flatten [bTown g o a pe wo tx ch jo tr dy sd f_2]) := hD
            exact ih2_5 x_22 f_2 ⟨(Int.le_trans (by decide) hx_22.2.1), hx_22.2.2⟩ rf_2 H _ ls (zmK hx_22.1 (by decide) n14 (by decide) hk2_5)  hP hD hS (lv_sub hl [0, 1, 2, 3] rfl)
          · skip
            refine lv_if_eq (tgt := 48) hx hb dX9_spread_20 (by decide) (fun c23 => absurd c23 (by decide)) (fun _ => ?_)
            refine lv_aload_n hx hb dX9_spread_23 rfl (lv_at hl 0 rfl) ?_
            refine lv_iload_n hx hb dX9_spread_24 rfl (lv_at hl 3 rfl) ?_
            refine lv_iload_n hx hb dX9_spread_25 rfl (lv_at hl 2 rfl) ?_
            refine lv_if_eq (tgt := 38) hx hb dX9_spread_26 (by decide) (fun cb9 => ?_) (fun cb9 => ?_)
            · skip
              have c24 : wa.toInt = 0 := zeq cb9 rfl (by decide)
              have n25 : 0 ≤ wa.toInt := Int.le_trans (Int.le_refl _) (Int.le_of_eq c24.symm)
              have n26 : wa.toInt ≤ 0 := Int.le_trans (Int.le_of_eq c24) (Int.le_refl _)
              refine lv_aload_n hx hb dX9_spread_38 rfl (lv_at hl 0 rfl) ?_
              refine lv_iload_n hx hb dX9_spread_39 rfl (lv_at hl 3 rfl) ?_
              refine lv_iload_n hx hb dX9_spread_40 rfl (lv_at hl 1 rfl) ?_
              refine mcallV' (g := g) (q0 := 0) (ci := 7) (As := [.int x_1, .int x1]) (rest := [.int x_1, .ref o]) St hK hT hA hP hD hS hl.1 [0] [] rfl rfl rfl (c_trustOf l g o a pe wo tx ch jo tr dy sd f_2 x_1 x1 (⟨i3.1, n14⟩) b_x1) (cwV 2 hts (zgL (zl4 k89 k90 k91 k24) k87) rfl rfl rfl (by decide +kernel) ⟨Nat.le_of_ble_eq_true rfl, Nat.le_of_ble_eq_true rfl⟩) rfl rfl rfl rfl (Nat.le_of_ble_eq_true rfl) dX9_spread_41 ⟨(Nat.le_of_ble_eq_true rfl), (Nat.le_of_ble_eq_true rfl)⟩ (fun q_27 H locs hq28 hP hD hS => ?_)
              have hP : va_P g.1 vwCl (List.flatten [bTown g o a pe wo tx ch jo tr dy sd f_2]) H := hP
              have hD : va_D A (List.flatten [bTown g o a pe wo tx ch jo tr dy sd f_2]) := hD
              refine W.widen (k := 0) (n := 0) (Nat.le_of_ble_eq_true rfl) (Nat.le_of_ble_eq_true rfl) ?_
              refine W.eq (g2 := F0 m 44 ls [.int q_27, .int x_1, .ref o]) rfl ?_
              refine lv_ineg hx hb dX9_spread_44 ?_
              refine zg (fun x_29 => ?_)
              refine mcallV' (g := g) (q0 := 0) (ci := 7) (As := [.int x_1, .int x_29]) (rest := []) St hK hT hA hP hD hS hl.1 [0] [] rfl rfl rfl (c_raise l g o a pe wo tx ch jo tr dy sd f_2 x_1 x_29 rf_2 (⟨i3.1, n14⟩)) (cwV 2 hts (zgL (zl4 k131 k132 k133 k24) k47) rfl rfl rfl (by decide +kernel) ⟨Nat.le_of_ble_eq_true rfl, Nat.le_of_ble_eq_true rfl⟩) rfl rfl rfl rfl (Nat.le_of_ble_eq_true rfl) dX9_spread_45 ⟨(Nat.le_of_ble_eq_true rfl), (Nat.le_of_ble_eq_true rfl)⟩ (fun f2_30 H locs hq31 hP hD hS => ?_)
              replace hq31 : (zZ4 f2_30) := hq31
              have hP : va_P g.1 vwCl (List.flatten [bTown g o a pe wo tx ch jo tr dy sd f2_30]) H := hP
              have hD : va_D A (List.flatten [bTown g o a pe wo tx ch jo tr dy sd f2_30]) := hD
              refine W.widen (k := 0) (n := 0) (Nat.le_of_ble_eq_true rfl) (Nat.le_of_ble_eq_true rfl) ?_
              refine W.eq (g2 := F0 m 48 ls []) rfl ?_
              have rf2_30 := hq31; clear hq31
              refine ziinc3 (n' := 1) (a' := 1) (b' := 8) (lv' := fun v9 => [(3, .int v9), (0, .ref o), (1, .int x1), (2, .int wa)]) hx hb dX9_spread_48 hl (k := 3) rfl (by decide) (fun _ => rfl) (zaddK (i := x_1.toInt) (j := 1) rfl (by decide) i3.1 n14 (Int.le_refl _) (Int.le_refl _) (by decide)) (fun x_32 ls hx_32 hl => ?_)
              refine lv_goto (tgt := 2) hx hb dX9_spread_51 (by decide) ?_
              have hl := lv_sub (l' := [(0, .ref o), (1, .int x1), (2, .int wa), (3, .int x_32)]) hl [1, 2, 3, 0] rfl
              have hP : va_P g.1 vwCl (List.flatten [bTown g o a pe wo tx ch jo tr dy sd f2_30]) H := hP
              have hD : va_D A (List.flatten [bTown g o a pe wo tx ch jo tr dy sd f2_30]) := hD
              exact ih2_5 x_32 f2_30 ⟨(Int.le_trans (by decide) hx_32.2.1), hx_32.2.2⟩ rf2_30 H _ ls (zmK hx_32.1 (by decide) n14 (by decide) hk2_5)  hP hD hS (lv_sub hl [0, 1, 2, 3] rfl)
            · skip
              have c33 : ¬ wa.toInt = 0 := zne cb9 rfl (by decide)
              refine lv_aload_n hx hb dX9_spread_29 rfl (lv_at hl 0 rfl) ?_
              refine lv_iload_n hx hb dX9_spread_30 rfl (lv_at hl 3 rfl) ?_
              refine lv_iload_n hx hb dX9_spread_31 rfl (lv_at hl 1 rfl) ?_
              refine mcallV' (g := g) (q0 := 0) (ci := 7) (As := [.int x_1, .int x1]) (rest := [.int x_1, .ref o]) St hK hT hA hP hD hS hl.1 [0] [] rfl rfl rfl (c_trustOf l g o a pe wo tx ch jo tr dy sd f_2 x_1 x1 (⟨i3.1, n14⟩) b_x1) (cwV 2 hts (zgL (zl4 k89 k90 k91 k24) k87) rfl rfl rfl (by decide +kernel) ⟨Nat.le_of_ble_eq_true rfl, Nat.le_of_ble_eq_true rfl⟩) rfl rfl rfl rfl (Nat.le_of_ble_eq_true rfl) dX9_spread_32 ⟨(Nat.le_of_ble_eq_true rfl), (Nat.le_of_ble_eq_true rfl)⟩ (fun q_34 H locs hq35 hP hD hS => ?_)
              have hP : va_P g.1 vwCl (List.flatten [bTown g o a pe wo tx ch jo tr dy sd f_2]) H := hP
              have hD : va_D A (List.flatten [bTown g o a pe wo tx ch jo tr dy sd f_2]) := hD
              refine W.widen (k := 0) (n := 0) (Nat.le_of_ble_eq_true rfl) (Nat.le_of_ble_eq_true rfl) ?_
              refine W.eq (g2 := F0 m 35 ls [.int q_34, .int x_1, .ref o]) rfl ?_
              refine lv_goto (tgt := 45) hx hb dX9_spread_35 (by decide) ?_
              refine mcallV' (g := g) (q0 := 0) (ci := 7) (As := [.int x_1, .int q_34]) (rest := []) St hK hT hA hP hD hS hl.1 [0] [] rfl rfl rfl (c_raise l g o a pe wo tx ch jo tr dy sd f_2 x_1 q_34 rf_2 (⟨i3.1, n14⟩)) (cwV 2 hts (zgL (zl4 k131 k132 k133 k24) k47) rfl rfl rfl (by decide +kernel) ⟨Nat.le_of_ble_eq_true rfl, Nat.le_of_ble_eq_true rfl⟩) rfl rfl rfl rfl (Nat.le_of_ble_eq_true rfl) dX9_spread_45 ⟨(Nat.le_of_ble_eq_true rfl), (Nat.le_of_ble_eq_true rfl)⟩ (fun f2_36 H locs hq37 hP hD hS => ?_)
              replace hq37 : (zZ4 f2_36) := hq37
              have hP : va_P g.1 vwCl (List.flatten [bTown g o a pe wo tx ch jo tr dy sd f2_36]) H := hP
              have hD : va_D A (List.flatten [bTown g o a pe wo tx ch jo tr dy sd f2_36]) := hD
              refine W.widen (k := 0) (n := 0) (Nat.le_of_ble_eq_true rfl) (Nat.le_of_ble_eq_true rfl) ?_
              refine W.eq (g2 := F0 m 48 ls []) rfl ?_
              have rf2_36 := hq37; clear hq37
              refine ziinc3 (n' := 1) (a' := 1) (b' := 8) (lv' := fun v9 => [(3, .int v9), (0, .ref o), (1, .int x1), (2, .int wa)]) hx hb dX9_spread_48 hl (k := 3) rfl (by decide) (fun _ => rfl) (zaddK (i := x_1.toInt) (j := 1) rfl (by decide) i3.1 n14 (Int.le_refl _) (Int.le_refl _) (by decide)) (fun x_38 ls hx_38 hl => ?_)
              refine lv_goto (tgt := 2) hx hb dX9_spread_51 (by decide) ?_
              have hl := lv_sub (l' := [(0, .ref o), (1, .int x1), (2, .int wa), (3, .int x_38)]) hl [1, 2, 3, 0] rfl
              have hP : va_P g.1 vwCl (List.flatten [bTown g o a pe wo tx ch jo tr dy sd f2_36]) H := hP
              have hD : va_D A (List.flatten [bTown g o a pe wo tx ch jo tr dy sd f2_36]) := hD
              exact ih2_5 x_38 f2_36 ⟨(Int.le_trans (by decide) hx_38.2.1), hx_38.2.2⟩ rf2_36 H _ ls (zmK hx_38.1 (by decide) n14 (by decide) hk2_5)  hP hD hS (lv_sub hl [0, 1, 2, 3] rfl)
  have hP : va_P g.1 vwCl (List.flatten [bTown g o a pe wo tx ch jo tr dy sd f]) s.heap := hP
  have hD : va_D A (List.flatten [bTown g o a pe wo tx ch jo tr dy sd f]) := hD
  exact LP2_4 _ 0 f (by decide) rf s.heap _ ls (Nat.lt_succ_self _)  hP hD hS (lv_sub hl [0, 1, 2, 3] rfl)
set_option maxRecDepth 100000 in
set_option maxHeartbeats 4000000 in
theorem c_showTo (l : Launch) (g : zG) (o : Nat) (a : Nat → Nat) (pe : Int32) (wo : Int32) (tx : Int32) (ch : Int32) (jo : Int32) (tr : Int32) (dy : Int32) (sd : Int32) (f : Nat → Nat → Int32) (lo : Nat) (lc : Nat) (lz : Int32) (ll : Int32) (lm : Int32) (lg : Int32) (ld : Int32) (fc : Nat → Int32) (b_pe : 0 ≤ pe.toInt ∧ pe.toInt ≤ 8) (b_wo : 0 ≤ wo.toInt ∧ wo.toInt ≤ 6) (rf : zZ4 f) : zM' g l yX9_showTo (Cond.code yX9_showTo cX9_showTo 2 none :: zB) ({ frames := 3, cells := 0, slots := 0, locals := 64 } : Room) [.ref o, .ref lo] [bTown g o a pe wo tx ch jo tr dy sd f, bLaw g lo lc lz ll lm lg ld fc] (fun u : Int32 × Int32 × Int32 => (fun (lm2 : Int32) (lg2 : Int32) (ld2 : Int32) => none) (u.1) (u.2.1) (u.2.2)) (fun u : Int32 × Int32 × Int32 => (fun (lm2 : Int32) (lg2 : Int32) (ld2 : Int32) => True) (u.1) (u.2.1) (u.2.2)) (fun u : Int32 × Int32 × Int32 => (fun (lm2 : Int32) (lg2 : Int32) (ld2 : Int32) => [bTown g o a pe wo tx ch jo tr dy sd f, bLaw g lo lc lz ll lm2 lg2 ld2 fc]) (u.1) (u.2.1) (u.2.2)) := by
  refine zM'.of (cc := cX9_showTo) (maxL := 2) (rt := none) (by decide) rfl (Nat.le_of_ble_eq_true rfl) ?_
  intro p e s m args below meth c A ls St hr hlocks hin hK hT hA hP hD hS hl
  obtain ⟨hx, hb, hml, hown, hts⟩ := id St
  have hl : lv_has ls 2 [(0, .ref o), (1, .ref lo)] := hl
  refine lv_aload_n hx hb dX9_showTo_0 rfl (lv_at hl 1 rfl) ?_
  refine lv_aload_n hx hb dX9_showTo_1 rfl (lv_at hl 0 rfl) ?_
  refine mcallV' (g := g) (q0 := 0) (ci := 7) (As := []) (rest := [.ref lo]) St hK hT hA hP hD hS hl.1 [0] [1] rfl rfl rfl (c_meanBelief l g o a pe wo tx ch jo tr dy sd f b_pe b_wo rf) (cwV 0 hts (zgL (zl4 k76 k77 k78 k24) k61) rfl rfl rfl (by decide +kernel) ⟨Nat.le_of_ble_eq_true rfl, Nat.le_of_ble_eq_true rfl⟩) rfl rfl rfl rfl (Nat.le_of_ble_eq_true rfl) dX9_showTo_2 ⟨(Nat.le_of_ble_eq_true rfl), (Nat.le_of_ble_eq_true rfl)⟩ (fun q_1 H locs hq2 hP hD hS => ?_)
  have hP : va_P g.1 vwCl (List.flatten [bLaw g lo lc lz ll lm lg ld fc, bTown g o a pe wo tx ch jo tr dy sd f]) H := hP
  have hD : va_D A (List.flatten [bLaw g lo lc lz ll lm lg ld fc, bTown g o a pe wo tx ch jo tr dy sd f]) := hD
  refine W.widen (k := 0) (n := 0) (Nat.le_of_ble_eq_true rfl) (Nat.le_of_ble_eq_true rfl) ?_
  refine W.eq (g2 := F0 m 5 ls [.int q_1, .ref lo]) rfl ?_
  refine lv_aload_n hx hb dX9_showTo_5 rfl (lv_at hl 0 rfl) ?_
  refine lv_iconst (v := 1) hx hb dX9_showTo_6 (by decide) ?_
  refine mcallV' (g := g) (q0 := 0) (ci := 7) (As := [.int 1]) (rest := [.int q_1, .ref lo]) St hK hT hA hP hD hS hl.1 [1] [0] rfl rfl rfl (c_worksIn l g o a pe wo tx ch jo tr dy sd f 1 b_pe b_wo rf) (cwV 1 hts (zgL (zl4 k79 k80 k81 k24) k71) rfl rfl rfl (by decide +kernel) ⟨Nat.le_of_ble_eq_true rfl, Nat.le_of_ble_eq_true rfl⟩) rfl rfl rfl rfl (Nat.le_of_ble_eq_true rfl) dX9_showTo_7 ⟨(Nat.le_of_ble_eq_true rfl), (Nat.le_of_ble_eq_true rfl)⟩ (fun q_3 H locs hq4 hP hD hS => ?_)
  have hP : va_P g.1 vwCl (List.flatten [bLaw g lo lc lz ll lm lg ld fc, bTown g o a pe wo tx ch jo tr dy sd f]) H := hP
  have hD : va_D A (List.flatten [bLaw g lo lc lz ll lm lg ld fc, bTown g o a pe wo tx ch jo tr dy sd f]) := hD
  refine W.widen (k := 0) (n := 0) (Nat.le_of_ble_eq_true rfl) (Nat.le_of_ble_eq_true rfl) ?_
  refine W.eq (g2 := F0 m 10 ls [.int q_3, .int q_1, .ref lo]) rfl ?_
  refine mcallS' (g := g) (As := [.int q_3]) (rest := [.int q_1, .ref lo]) St hK hT hA hP hD hS hl.1 [] [0, 1] rfl rfl rfl (j_bitCount l g q_3 ) (va_cwS 1 hts (zgL (zl3 k65 k66 k67) k56) rfl rfl rfl (by decide +kernel) ⟨Nat.le_of_ble_eq_true rfl, Nat.le_of_ble_eq_true rfl⟩) rfl rfl (Nat.le_of_ble_eq_true rfl) dX9_showTo_10 ⟨(Nat.le_of_ble_eq_true rfl), (Nat.le_of_ble_eq_true rfl)⟩ (fun q_5 H locs hq6 hP hD hS => ?_)
  have hP : va_P g.1 vwCl (List.flatten [bLaw g lo lc lz ll lm lg ld fc, bTown g o a pe wo tx ch jo tr dy sd f]) H := hP
  have hD : va_D A (List.flatten [bLaw g lo lc lz ll lm lg ld fc, bTown g o a pe wo tx ch jo tr dy sd f]) := hD
  refine W.widen (k := 0) (n := 0) (Nat.le_of_ble_eq_true rfl) (Nat.le_of_ble_eq_true rfl) ?_
  refine W.eq (g2 := F0 m 13 ls [.int q_5, .int q_1, .ref lo]) rfl ?_
  refine lv_aload_n hx hb dX9_showTo_13 rfl (lv_at hl 0 rfl) ?_
  refine va_get (D := g.1) (ci := 7) (v := .int dy) (C := RX9) (T := TX9) (N := 19) hx hb hts izRX9 hown hK hP 2 rfl rfl 6 (by decide) (hts _ k34) (fun _ h9 => h9) rfl dX9_showTo_14 ?_
  refine mcallV' (g := g) (q0 := 0) (ci := 1) (As := [.int q_1, .int q_5, .int dy]) (rest := []) St hK hT hA hP hD hS hl.1 [0] [1] rfl rfl rfl (c_l_look l g lo lc lz ll lm lg ld fc q_1 q_5 dy ) (cwV 3 hts (zgL (zl4 k82 k83 k84 k85) k72) rfl rfl rfl (by decide +kernel) ⟨Nat.le_of_ble_eq_true rfl, Nat.le_of_ble_eq_true rfl⟩) rfl rfl rfl rfl (Nat.le_of_ble_eq_true rfl) dX9_showTo_17 ⟨(Nat.le_of_ble_eq_true rfl), (Nat.le_of_ble_eq_true rfl)⟩ (fun _u H locs hq7 hP hD hS => ?_)
  have hP : va_P g.1 vwCl (List.flatten [bTown g o a pe wo tx ch jo tr dy sd f, bLaw g lo lc lz ll q_1 q_5 dy fc]) H := hP
  have hD : va_D A (List.flatten [bTown g o a pe wo tx ch jo tr dy sd f, bLaw g lo lc lz ll q_1 q_5 dy fc]) := hD
  refine W.widen (k := 0) (n := 0) (Nat.le_of_ble_eq_true rfl) (Nat.le_of_ble_eq_true rfl) ?_
  refine W.eq (g2 := F0 m 20 ls []) rfl ?_
  have hP : va_P g.1 vwCl (List.flatten [bTown g o a pe wo tx ch jo tr dy sd f, bLaw g lo lc lz ll q_1 q_5 dy fc]) H := hP
  have hD : va_D A (List.flatten [bTown g o a pe wo tx ch jo tr dy sd f, bLaw g lo lc lz ll q_1 q_5 dy fc]) := hD
  exact mret_v hx hb hr hlocks hS (Nat.le_of_ble_eq_true rfl) (Nat.le_of_ble_eq_true rfl) dX9_showTo_20 (q_1, q_5, dy) rfl trivial hP hD
set_option maxRecDepth 100000 in
set_option maxHeartbeats 4000000 in
theorem c_turnsOf (l : Launch) (g : zG) (o : Nat) (a : Nat → Nat) (pe : Int32) (wo : Int32) (tx : Int32) (ch : Int32) (jo : Int32) (tr : Int32) (dy : Int32) (sd : Int32) (f : Nat → Nat → Int32) (lo : Nat) (lc : Nat) (lz : Int32) (ll : Int32) (lm : Int32) (lg : Int32) (ld : Int32) (fc : Nat → Int32) (x1 : Int32) (b_pe : 0 ≤ pe.toInt ∧ pe.toInt ≤ 8) (b_wo : 0 ≤ wo.toInt ∧ wo.toInt ≤ 6) (rf : zZ4 f) (b_lz : 0 ≤ lz.toInt ∧ lz.toInt ≤ 400) (b_x1 : 0 ≤ x1.toInt ∧ x1.toInt ≤ 7) : zM' g l yX9_turnsOf (Cond.code yX9_turnsOf cX9_turnsOf 3 (some .int) :: zB) ({ frames := 4, cells := 0, slots := 0, locals := 85 } : Room) [.ref o, .int x1, .ref lo] [bTown g o a pe wo tx ch jo tr dy sd f, bLaw g lo lc lz ll lm lg ld fc] (fun u : Int32 × Int32 × Int32 × Int32 => (fun (lm2 : Int32) (lg2 : Int32) (ld2 : Int32) (q : Int32) => some (.int q)) (u.1) (u.2.1) (u.2.2.1) (u.2.2.2)) (fun u : Int32 × Int32 × Int32 × Int32 => (fun (lm2 : Int32) (lg2 : Int32) (ld2 : Int32) (q : Int32) => True) (u.1) (u.2.1) (u.2.2.1) (u.2.2.2)) (fun u : Int32 × Int32 × Int32 × Int32 => (fun (lm2 : Int32) (lg2 : Int32) (ld2 : Int32) (q : Int32) => [bTown g o a pe wo tx ch jo tr dy sd f, bLaw g lo lc lz ll lm2 lg2 ld2 fc]) (u.1) (u.2.1) (u.2.2.1) (u.2.2.2)) := by
  refine zM'.of (cc := cX9_turnsOf) (maxL := 3) (rt := (some .int)) (by decide) rfl (Nat.le_of_ble_eq_true rfl) ?_
  intro p e s m args below meth c A ls St hr hlocks hin hK hT hA hP hD hS hl
  obtain ⟨hx, hb, hml, hown, hts⟩ := id St
  have hl : lv_has ls 3 [(0, .ref o), (1, .int x1), (2, .ref lo)] := hl
  refine lv_aload_n hx hb dX9_turnsOf_0 rfl (lv_at hl 0 rfl) ?_
  refine lv_aload_n hx hb dX9_turnsOf_1 rfl (lv_at hl 2 rfl) ?_
  refine mcallV' (g := g) (q0 := 0) (ci := 7) (As := [.ref lo]) (rest := []) St hK hT hA hP hD hS hl.1 [0, 1] [] rfl rfl rfl (c_showTo l g o a pe wo tx ch jo tr dy sd f lo lc lz ll lm lg ld fc b_pe b_wo rf) (cwV 1 hts (zgL (zl4 k142 k143 k144 k24) k86) rfl rfl rfl (by decide +kernel) ⟨Nat.le_of_ble_eq_true rfl, Nat.le_of_ble_eq_true rfl⟩) rfl rfl rfl rfl (Nat.le_of_ble_eq_true rfl) dX9_turnsOf_2 ⟨(Nat.le_of_ble_eq_true rfl), (Nat.le_of_ble_eq_true rfl)⟩ (fun u_ H locs hq4 hP hD hS => ?_)
  obtain ⟨lm2_1, lg2_2, ld2_3⟩ := u_
  have hP : va_P g.1 vwCl (List.flatten [bTown g o a pe wo tx ch jo tr dy sd f, bLaw g lo lc lz ll lm2_1 lg2_2 ld2_3 fc]) H := hP
  have hD : va_D A (List.flatten [bTown g o a pe wo tx ch jo tr dy sd f, bLaw g lo lc lz ll lm2_1 lg2_2 ld2_3 fc]) := hD
  refine W.widen (k := 0) (n := 0) (Nat.le_of_ble_eq_true rfl) (Nat.le_of_ble_eq_true rfl) ?_
  refine W.eq (g2 := F0 m 5 ls []) rfl ?_
  refine lv_aload_n hx hb dX9_turnsOf_5 rfl (lv_at hl 2 rfl) ?_
  refine lv_aload_n hx hb dX9_turnsOf_6 rfl (lv_at hl 0 rfl) ?_
  refine lv_iload_n hx hb dX9_turnsOf_7 rfl (lv_at hl 1 rfl) ?_
  refine mcallV' (g := g) (q0 := 0) (ci := 1) (As := [.ref o, .int x1]) (rest := []) St hK hT hA hP hD hS hl.1 [1, 0] [] rfl rfl rfl (c_l_turnsOf l g lo lc lz ll lm2_1 lg2_2 ld2_3 fc o a pe wo tx ch jo tr dy sd f x1 b_lz b_pe b_wo rf b_x1) (cwV 2 hts (zgL (zl4 k111 k112 k113 k85) k107) rfl rfl rfl (by decide +kernel) ⟨Nat.le_of_ble_eq_true rfl, Nat.le_of_ble_eq_true rfl⟩) rfl rfl rfl rfl (Nat.le_of_ble_eq_true rfl) dX9_turnsOf_8 ⟨(Nat.le_of_ble_eq_true rfl), (Nat.le_of_ble_eq_true rfl)⟩ (fun q_5 H locs hq6 hP hD hS => ?_)
  have hP : va_P g.1 vwCl (List.flatten [bLaw g lo lc lz ll lm2_1 lg2_2 ld2_3 fc, bTown g o a pe wo tx ch jo tr dy sd f]) H := hP
  have hD : va_D A (List.flatten [bLaw g lo lc lz ll lm2_1 lg2_2 ld2_3 fc, bTown g o a pe wo tx ch jo tr dy sd f]) := hD
  refine W.widen (k := 0) (n := 0) (Nat.le_of_ble_eq_true rfl) (Nat.le_of_ble_eq_true rfl) ?_
  refine W.eq (g2 := F0 m 11 ls [.int q_5]) rfl ?_
  have hP : va_P g.1 vwCl (List.flatten [bLaw g lo lc lz ll lm2_1 lg2_2 ld2_3 fc, bTown g o a pe wo tx ch jo tr dy sd f]) H := hP
  have hD : va_D A (List.flatten [bLaw g lo lc lz ll lm2_1 lg2_2 ld2_3 fc, bTown g o a pe wo tx ch jo tr dy sd f]) := hD
  obtain ⟨hP, hD⟩ := zord (g := g) (Bs' := [bTown g o a pe wo tx ch jo tr dy sd f, bLaw g lo lc lz ll lm2_1 lg2_2 ld2_3 fc]) [1, 0] rfl rfl hP hD
  exact mret_i hx hb hr hlocks hS (Nat.le_of_ble_eq_true rfl) (Nat.le_of_ble_eq_true rfl) dX9_turnsOf_11 (lm2_1, lg2_2, ld2_3, q_5) rfl trivial hP hD
set_option maxRecDepth 100000 in
set_option maxHeartbeats 4000000 in
theorem c_turnBeliefs (l : Launch) (g : zG) (o : Nat) (a : Nat → Nat) (pe : Int32) (wo : Int32) (tx : Int32) (ch : Int32) (jo : Int32) (tr : Int32) (dy : Int32) (sd : Int32) (f : Nat → Nat → Int32) (lo : Nat) (lc : Nat) (lz : Int32) (ll : Int32) (lm : Int32) (lg : Int32) (ld : Int32) (fc : Nat → Int32) (b_pe : 0 ≤ pe.toInt ∧ pe.toInt ≤ 8) (b_wo : 0 ≤ wo.toInt ∧ wo.toInt ≤ 6) (rf : zZ4 f) (b_lz : 0 ≤ lz.toInt ∧ lz.toInt ≤ 400) : zM' g l yX9_turnBeliefs (Cond.code yX9_turnBeliefs cX9_turnBeliefs 3 none :: zB) ({ frames := 3, cells := 0, slots := 0, locals := 75 } : Room) [.ref o, .ref lo] [bTown g o a pe wo tx ch jo tr dy sd f, bLaw g lo lc lz ll lm lg ld fc] (fun (f2 : Nat → Nat → Int32) => none) (fun (f2 : Nat → Nat → Int32) => (zZ4 f2)) (fun (f2 : Nat → Nat → Int32) => [bTown g o a pe wo tx ch jo tr dy sd f2, bLaw g lo lc lz ll lm lg ld fc]) := by
  refine zM'.of (cc := cX9_turnBeliefs) (maxL := 3) (rt := none) (by decide) rfl (Nat.le_of_ble_eq_true rfl) ?_
  intro p e s m args below meth c A ls St hr hlocks hin hK hT hA hP hD hS hl
  obtain ⟨hx, hb, hml, hown, hts⟩ := id St
  have hl : lv_has ls 3 [(0, .ref o), (1, .ref lo)] := hl
  refine lv_iconst (v := 0) hx hb dX9_turnBeliefs_0 (by decide) ?_
  refine lv_istore_n (lv' := [(2, .int 0), (0, .ref o), (1, .ref lo)]) hx hb dX9_turnBeliefs_1 rfl hl (by decide) rfl (fun ls hl => ?_)
  have hl := lv_sub (l' := [(0, .ref o), (1, .ref lo), (2, .int 0)]) hl [1, 2, 0] rfl
  have LP2_4 : ∀ (kf : Nat) (x_1 : Int32) (f_2 : Nat → Nat → Int32), (0 ≤ x_1.toInt ∧ x_1.toInt ≤ 8) → (zZ4 f_2) → ∀ (H : Heap) (locs : List Loc) (ls : Array Slot), ((9 - x_1.toInt).toNat) < kf → va_P g.1 vwCl (List.flatten [bTown g o a pe wo tx ch jo tr dy sd f_2, bLaw g lo lc lz ll lm lg ld fc]) H → va_D A (List.flatten [bTown g o a pe wo tx ch jo tr dy sd f_2, bLaw g lo lc lz ll lm lg ld fc]) → va_S A s.heap H locs → lv_has ls 3 [(0, .ref o), (1, .ref lo), (2, .int x_1)] → W p l e ({ frames := 3, cells := 0, slots := 0, locals := 75 } : Room) s m args below meth c H locs (0) (0) (zF g (fun (f2 : Nat → Nat → Int32) => none) (fun (f2 : Nat → Nat → Int32) => (zZ4 f2)) (fun (f2 : Nat → Nat → Int32) => [bTown g o a pe wo tx ch jo tr dy sd f2, bLaw g lo lc lz ll lm lg ld fc]) ({ frames := 3, cells := 0, slots := 0, locals := 75 } : Room) below args s A) (F0 m 2 ls []) := by
    intro kf
    induction kf with
    | zero => intro x_1 f_2 i3 rf_2 H locs ls hk; exact absurd hk (Nat.not_lt_zero _)
    | succ kf ih2_5 =>
      intro x_1 f_2 i3 rf_2 H locs ls hk2_5 hP hD hS hl
      refine lv_iload_n hx hb dX9_turnBeliefs_2 rfl (lv_at hl 2 rfl) ?_
      refine lv_aload_n hx hb dX9_turnBeliefs_3 rfl (lv_at hl 0 rfl) ?_
      refine va_get (D := g.1) (ci := 7) (v := .int pe) (C := RX9) (T := TX9) (N := 19) hx hb hts izRX9 hown hK hP 0 rfl rfl 0 (by decide) (hts _ k31) (fun _ h9 => h9) rfl dX9_turnBeliefs_4 ?_
      refine lv_icmp_ge (tgt := 68) hx hb dX9_turnBeliefs_7 (by decide) (fun cb9 => ?_) (fun cb9 => ?_)
      · skip
        have c6 : pe.toInt ≤ x_1.toInt := zle cb9 rfl rfl
        refine lv_aload_n hx hb dX9_turnBeliefs_68 rfl (lv_at hl 0 rfl) ?_
        refine va_get (D := g.1) (ci := 7) (v := .ref (a 10)) (C := RX9) (T := TX9) (N := 19) hx hb hts izRX9 hown hK hP 0 rfl rfl 18 (by decide) (hts _ k20) (fun _ h9 => h9) rfl dX9_turnBeliefs_69 ?_
        refine lv_iconst (v := 0) hx hb dX9_turnBeliefs_72 (by decide) ?_
        refine lv_aload_n hx hb dX9_turnBeliefs_73 rfl (lv_at hl 0 rfl) ?_
        refine va_get (D := g.1) (ci := 7) (v := .ref (a 0)) (C := RX9) (T := TX9) (N := 19) hx hb hts izRX9 hown hK hP 0 rfl rfl 8 (by decide) (hts _ k9) (fun _ h9 => h9) rfl dX9_turnBeliefs_74 ?_
        refine lv_iconst (v := 0) hx hb dX9_turnBeliefs_77 (by decide) ?_
        refine lv_aload_n hx hb dX9_turnBeliefs_78 rfl (lv_at hl 0 rfl) ?_
        refine va_get (D := g.1) (ci := 7) (v := .int pe) (C := RX9) (T := TX9) (N := 19) hx hb hts izRX9 hown hK hP 0 rfl rfl 0 (by decide) (hts _ k31) (fun _ h9 => h9) rfl dX9_turnBeliefs_79 ?_
        refine va_copyi (D := g.1) (ty := .int) hx hb (by rw [hml]; exact hl.1.symm) hown (hts _ k35) (hts _ k36) (hts _ k37) (hts _ k38) hK hP hD hS 11 1 0 0 rfl rfl rfl rfl rfl (by decide) (by decide) (znn (by omega)) (by show 0 + pe.toNatClampNeg ≤ 8; rw [zcl]; omega) (by show 0 + pe.toNatClampNeg ≤ 8; rw [zcl]; omega) (fun _ _ => rfl) (Nat.le_of_ble_eq_true rfl) (by decide) dX9_turnBeliefs_82 (fun H locs hP hD hS => ?_)
        obtain ⟨f7, rf7, hP, hD⟩ : ∃ f7 : Nat → Nat → Int32, zZ4 f7 ∧ va_P g.1 vwCl (List.flatten [bTown g o a pe wo tx ch jo tr dy sd f7, bLaw g lo lc lz ll lm lg ld fc]) H ∧ va_D A (List.flatten [bTown g o a pe wo tx ch jo tr dy sd f7, bLaw g lo lc lz ll lm lg ld fc]) := ⟨zu f_2 0 (va_cpy (f_2 10) (f_2 0) 0 0 pe.toNatClampNeg), (zZ4_u rf_2 (by decide)), hP, hD⟩
        have hP : va_P g.1 vwCl (List.flatten [bTown g o a pe wo tx ch jo tr dy sd f7, bLaw g lo lc lz ll lm lg ld fc]) H := hP
        have hD : va_D A (List.flatten [bTown g o a pe wo tx ch jo tr dy sd f7, bLaw g lo lc lz ll lm lg ld fc]) := hD
        exact mret_v hx hb hr hlocks hS (Nat.le_of_ble_eq_true rfl) (Nat.le_of_ble_eq_true rfl) dX9_turnBeliefs_85 (f7) rfl (show (zZ4 f7) from rf7) hP hD
      · skip
        have c8 : x_1.toInt < pe.toInt := zlti (Int32.not_le.mp cb9) rfl rfl
        have n9 : x_1.toInt ≤ 7 := zL1 (b := 8) c8 b_pe.2 (by decide)
        have n10 : 1 ≤ pe.toInt := zL2 (a := 0) c8 i3.1 (by decide)
        refine lv_aload_n hx hb dX9_turnBeliefs_10 rfl (lv_at hl 0 rfl) ?_
        refine lv_iload_n hx hb dX9_turnBeliefs_11 rfl (lv_at hl 2 rfl) ?_
        refine mcallV' (g := g) (q0 := 0) (ci := 7) (As := [.int x_1]) (rest := []) St hK hT hA hP hD hS hl.1 [0] [1] rfl rfl rfl (c_isHere l g o a pe wo tx ch jo tr dy sd f_2 x_1 (⟨i3.1, n9⟩)) (cwV 1 hts (zgL (zl4 k53 k54 k55 k24) k51) rfl rfl rfl (by decide +kernel) ⟨Nat.le_of_ble_eq_true rfl, Nat.le_of_ble_eq_true rfl⟩) rfl rfl rfl rfl (Nat.le_of_ble_eq_true rfl) dX9_turnBeliefs_12 ⟨(Nat.le_of_ble_eq_true rfl), (Nat.le_of_ble_eq_true rfl)⟩ (fun q_11 H locs hq12 hP hD hS => ?_)
        replace hq12 : (q_11 = 0 ∨ q_11 = 1) := hq12
        have hP : va_P g.1 vwCl (List.flatten [bLaw g lo lc lz ll lm lg ld fc, bTown g o a pe wo tx ch jo tr dy sd f_2]) H := hP
        have hD : va_D A (List.flatten [bLaw g lo lc lz ll lm lg ld fc, bTown g o a pe wo tx ch jo tr dy sd f_2]) := hD
        refine W.widen (k := 0) (n := 0) (Nat.le_of_ble_eq_true rfl) (Nat.le_of_ble_eq_true rfl) ?_
        refine W.eq (g2 := F0 m 15 ls [.int q_11]) rfl ?_
        rcases hq12 with rfl | rfl
        · skip
          refine lv_if_eq (tgt := 50) hx hb dX9_turnBeliefs_15 (by decide) (fun _ => ?_) (fun c13 => absurd (by decide) c13)
          refine lv_aload_n hx hb dX9_turnBeliefs_50 rfl (lv_at hl 0 rfl) ?_
          refine va_get (D := g.1) (ci := 7) (v := .ref (a 10)) (C := RX9) (T := TX9) (N := 19) hx hb hts izRX9 hown hK hP 2 rfl rfl 18 (by decide) (hts _ k20) (fun _ h9 => h9) rfl dX9_turnBeliefs_51 ?_
          refine lv_iload_n hx hb dX9_turnBeliefs_54 rfl (lv_at hl 2 rfl) ?_
          refine lv_aload_n hx hb dX9_turnBeliefs_55 rfl (lv_at hl 0 rfl) ?_
          refine va_get (D := g.1) (ci := 7) (v := .ref (a 0)) (C := RX9) (T := TX9) (N := 19) hx hb hts izRX9 hown hK hP 2 rfl rfl 8 (by decide) (hts _ k9) (fun _ h9 => h9) rfl dX9_turnBeliefs_56 ?_
          refine lv_iload_n hx hb dX9_turnBeliefs_59 rfl (lv_at hl 2 rfl) ?_
          refine va_iald hx hb hK hP 3 0 rfl rfl (zinK (a := 0) (b := 7) i3.1 n9 (by decide)) dX9_turnBeliefs_60 ?_
          refine zg (fun x_14 => ?_)
          refine va_iast hx hb hK hP hD hS 13 0 rfl rfl (zinK (a := 0) (b := 7) i3.1 n9 (by decide)) dX9_turnBeliefs_61 (fun H locs hP hD hS => ?_)
          obtain ⟨f15, rf15, hP, hD⟩ : ∃ f15 : Nat → Nat → Int32, zZ4 f15 ∧ va_P g.1 vwCl (List.flatten [bLaw g lo lc lz ll lm lg ld fc, bTown g o a pe wo tx ch jo tr dy sd f15]) H ∧ va_D A (List.flatten [bLaw g lo lc lz ll lm lg ld fc, bTown g o a pe wo tx ch jo tr dy sd f15]) := ⟨zu f_2 10 (upd (f_2 10) x_1.toNatClampNeg x_14), (zZ4_u rf_2 (by decide)), hP, hD⟩
          refine ziinc3 (n' := 1) (a' := 1) (b' := 8) (lv' := fun v9 => [(2, .int v9), (0, .ref o), (1, .ref lo)]) hx hb dX9_turnBeliefs_62 hl (k := 2) rfl (by decide) (fun _ => rfl) (zaddK (i := x_1.toInt) (j := 1) rfl (by decide) i3.1 n9 (Int.le_refl _) (Int.le_refl _) (by decide)) (fun x_16 ls hx_16 hl => ?_)
          refine lv_goto (tgt := 2) hx hb dX9_turnBeliefs_65 (by decide) ?_
          have hl := lv_sub (l' := [(0, .ref o), (1, .ref lo), (2, .int x_16)]) hl [1, 2, 0] rfl
          have hP : va_P g.1 vwCl (List.flatten [bLaw g lo lc lz ll lm lg ld fc, bTown g o a pe wo tx ch jo tr dy sd f15]) H := hP
          have hD : va_D A (List.flatten [bLaw g lo lc lz ll lm lg ld fc, bTown g o a pe wo tx ch jo tr dy sd f15]) := hD
          obtain ⟨hP, hD⟩ := zord (g := g) (Bs' := [bTown g o a pe wo tx ch jo tr dy sd f15, bLaw g lo lc lz ll lm lg ld fc]) [1, 0] rfl rfl hP hD
          have hP : va_P g.1 vwCl (List.flatten [bTown g o a pe wo tx ch jo tr dy sd f15, bLaw g lo lc lz ll lm lg ld fc]) H := hP
          have hD : va_D A (List.flatten [bTown g o a pe wo tx ch jo tr dy sd f15, bLaw g lo lc lz ll lm lg ld fc]) := hD
          exact ih2_5 x_16 f15 ⟨(Int.le_trans (by decide) hx_16.2.1), hx_16.2.2⟩ rf15 H _ ls (zmK hx_16.1 (by decide) n9 (by decide) hk2_5)  hP hD hS (lv_sub hl [0, 1, 2] rfl)
        · skip
          refine lv_if_eq (tgt := 50) hx hb dX9_turnBeliefs_15 (by decide) (fun c17 => absurd c17 (by decide)) (fun _ => ?_)
          refine lv_aload_n hx hb dX9_turnBeliefs_18 rfl (lv_at hl 0 rfl) ?_
          refine va_get (D := g.1) (ci := 7) (v := .ref (a 10)) (C := RX9) (T := TX9) (N := 19) hx hb hts izRX9 hown hK hP 2 rfl rfl 18 (by decide) (hts _ k20) (fun _ h9 => h9) rfl dX9_turnBeliefs_19 ?_
          refine lv_iload_n hx hb dX9_turnBeliefs_22 rfl (lv_at hl 2 rfl) ?_
          refine lv_aload_n hx hb dX9_turnBeliefs_23 rfl (lv_at hl 0 rfl) ?_
          refine lv_aload_n hx hb dX9_turnBeliefs_24 rfl (lv_at hl 0 rfl) ?_
          refine va_get (D := g.1) (ci := 7) (v := .ref (a 0)) (C := RX9) (T := TX9) (N := 19) hx hb hts izRX9 hown hK hP 2 rfl rfl 8 (by decide) (hts _ k9) (fun _ h9 => h9) rfl dX9_turnBeliefs_25 ?_
          refine lv_iload_n hx hb dX9_turnBeliefs_28 rfl (lv_at hl 2 rfl) ?_
          refine va_iald hx hb hK hP 3 0 rfl rfl (zinK (a := 0) (b := 7) i3.1 n9 (by decide)) dX9_turnBeliefs_29 ?_
          refine zg (fun x_18 => ?_)
          refine lv_aload_n hx hb dX9_turnBeliefs_30 rfl (lv_at hl 0 rfl) ?_
          refine lv_iload_n hx hb dX9_turnBeliefs_31 rfl (lv_at hl 2 rfl) ?_
          refine mcallV' (g := g) (q0 := 0) (ci := 7) (As := [.int x_1]) (rest := [.int x_18, .ref o, .int x_1, .ref (a 10)]) St hK hT hA hP hD hS hl.1 [1] [0] rfl rfl rfl (c_pullOf l g o a pe wo tx ch jo tr dy sd f_2 x_1 b_pe b_wo rf_2 (⟨i3.1, n9⟩)) (cwV 1 hts (zgL (zl4 k108 k109 k110 k24) k88) rfl rfl rfl (by decide +kernel) ⟨Nat.le_of_ble_eq_true rfl, Nat.le_of_ble_eq_true rfl⟩) rfl rfl rfl rfl (Nat.le_of_ble_eq_true rfl) dX9_turnBeliefs_32 ⟨(Nat.le_of_ble_eq_true rfl), (Nat.le_of_ble_eq_true rfl)⟩ (fun q_19 H locs hq20 hP hD hS => ?_)
          have hP : va_P g.1 vwCl (List.flatten [bLaw g lo lc lz ll lm lg ld fc, bTown g o a pe wo tx ch jo tr dy sd f_2]) H := hP
          have hD : va_D A (List.flatten [bLaw g lo lc lz ll lm lg ld fc, bTown g o a pe wo tx ch jo tr dy sd f_2]) := hD
          refine W.widen (k := 0) (n := 0) (Nat.le_of_ble_eq_true rfl) (Nat.le_of_ble_eq_true rfl) ?_
          refine W.eq (g2 := F0 m 35 ls [.int q_19, .int x_18, .ref o, .int x_1, .ref (a 10)]) rfl ?_
          refine lv_iadd hx hb dX9_turnBeliefs_35 ?_
          refine zg (fun x_21 => ?_)
          refine lv_aload_n hx hb dX9_turnBeliefs_36 rfl (lv_at hl 1 rfl) ?_
          refine lv_aload_n hx hb dX9_turnBeliefs_37 rfl (lv_at hl 0 rfl) ?_
          refine lv_iload_n hx hb dX9_turnBeliefs_38 rfl (lv_at hl 2 rfl) ?_
          refine mcallV' (g := g) (q0 := 0) (ci := 1) (As := [.ref o, .int x_1]) (rest := [.int x_21, .ref o, .int x_1, .ref (a 10)]) St hK hT hA hP hD hS hl.1 [0, 1] [] rfl rfl rfl (c_l_turnsOf l g lo lc lz ll lm lg ld fc o a pe wo tx ch jo tr dy sd f_2 x_1 b_lz b_pe b_wo rf_2 (⟨i3.1, n9⟩)) (cwV 2 hts (zgL (zl4 k111 k112 k113 k85) k107) rfl rfl rfl (by decide +kernel) ⟨Nat.le_of_ble_eq_true rfl, Nat.le_of_ble_eq_true rfl⟩) rfl rfl rfl rfl (Nat.le_of_ble_eq_true rfl) dX9_turnBeliefs_39 ⟨(Nat.le_of_ble_eq_true rfl), (Nat.le_of_ble_eq_true rfl)⟩ (fun q_22 H locs hq23 hP hD hS => ?_)
          have hP : va_P g.1 vwCl (List.flatten [bLaw g lo lc lz ll lm lg ld fc, bTown g o a pe wo tx ch jo tr dy sd f_2]) H := hP
          have hD : va_D A (List.flatten [bLaw g lo lc lz ll lm lg ld fc, bTown g o a pe wo tx ch jo tr dy sd f_2]) := hD
          refine W.widen (k := 0) (n := 0) (Nat.le_of_ble_eq_true rfl) (Nat.le_of_ble_eq_true rfl) ?_
          refine W.eq (g2 := F0 m 42 ls [.int q_22, .int x_21, .ref o, .int x_1, .ref (a 10)]) rfl ?_
          refine lv_iadd hx hb dX9_turnBeliefs_42 ?_
          refine zg (fun x_24 => ?_)
          refine mcallV' (g := g) (q0 := 0) (ci := 7) (As := [.int x_24]) (rest := [.int x_1, .ref (a 10)]) St hK hT hA hP hD hS hl.1 [1] [0] rfl rfl rfl (c_within l g o a pe wo tx ch jo tr dy sd f_2 x_24 ) (cwV 1 hts (zgL (zl4 k48 k49 k50 k24) k39) rfl rfl rfl (by decide +kernel) ⟨Nat.le_of_ble_eq_true rfl, Nat.le_of_ble_eq_true rfl⟩) rfl rfl rfl rfl (Nat.le_of_ble_eq_true rfl) dX9_turnBeliefs_43 ⟨(Nat.le_of_ble_eq_true rfl), (Nat.le_of_ble_eq_true rfl)⟩ (fun q_25 H locs hq26 hP hD hS => ?_)
          have hP : va_P g.1 vwCl (List.flatten [bLaw g lo lc lz ll lm lg ld fc, bTown g o a pe wo tx ch jo tr dy sd f_2]) H := hP
          have hD : va_D A (List.flatten [bLaw g lo lc lz ll lm lg ld fc, bTown g o a pe wo tx ch jo tr dy sd f_2]) := hD
          refine W.widen (k := 0) (n := 0) (Nat.le_of_ble_eq_true rfl) (Nat.le_of_ble_eq_true rfl) ?_
          refine W.eq (g2 := F0 m 46 ls [.int q_25, .int x_1, .ref (a 10)]) rfl ?_
          refine va_iast hx hb hK hP hD hS 13 0 rfl rfl (zinK (a := 0) (b := 7) i3.1 n9 (by decide)) dX9_turnBeliefs_46 (fun H locs hP hD hS => ?_)
          obtain ⟨f27, rf27, hP, hD⟩ : ∃ f27 : Nat → Nat → Int32, zZ4 f27 ∧ va_P g.1 vwCl (List.flatten [bLaw g lo lc lz ll lm lg ld fc, bTown g o a pe wo tx ch jo tr dy sd f27]) H ∧ va_D A (List.flatten [bLaw g lo lc lz ll lm lg ld fc, bTown g o a pe wo tx ch jo tr dy sd f27]) := ⟨zu f_2 10 (upd (f_2 10) x_1.toNatClampNeg q_25), (zZ4_u rf_2 (by decide)), hP, hD⟩
          refine lv_goto (tgt := 62) hx hb dX9_turnBeliefs_47 (by decide) ?_
          refine ziinc3 (n' := 1) (a' := 1) (b' := 8) (lv' := fun v9 => [(2, .int v9), (0, .ref o), (1, .ref lo)]) hx hb dX9_turnBeliefs_62 hl (k := 2) rfl (by decide) (fun _ => rfl) (zaddK (i := x_1.toInt) (j := 1) rfl (by decide) i3.1 n9 (Int.le_refl _) (Int.le_refl _) (by decide)) (fun x_28 ls hx_28 hl => ?_)
          refine lv_goto (tgt := 2) hx hb dX9_turnBeliefs_65 (by decide) ?_
          have hl := lv_sub (l' := [(0, .ref o), (1, .ref lo), (2, .int x_28)]) hl [1, 2, 0] rfl
          have hP : va_P g.1 vwCl (List.flatten [bLaw g lo lc lz ll lm lg ld fc, bTown g o a pe wo tx ch jo tr dy sd f27]) H := hP
          have hD : va_D A (List.flatten [bLaw g lo lc lz ll lm lg ld fc, bTown g o a pe wo tx ch jo tr dy sd f27]) := hD
          obtain ⟨hP, hD⟩ := zord (g := g) (Bs' := [bTown g o a pe wo tx ch jo tr dy sd f27, bLaw g lo lc lz ll lm lg ld fc]) [1, 0] rfl rfl hP hD
          have hP : va_P g.1 vwCl (List.flatten [bTown g o a pe wo tx ch jo tr dy sd f27, bLaw g lo lc lz ll lm lg ld fc]) H := hP
          have hD : va_D A (List.flatten [bTown g o a pe wo tx ch jo tr dy sd f27, bLaw g lo lc lz ll lm lg ld fc]) := hD
          exact ih2_5 x_28 f27 ⟨(Int.le_trans (by decide) hx_28.2.1), hx_28.2.2⟩ rf27 H _ ls (zmK hx_28.1 (by decide) n9 (by decide) hk2_5)  hP hD hS (lv_sub hl [0, 1, 2] rfl)
  have hP : va_P g.1 vwCl (List.flatten [bTown g o a pe wo tx ch jo tr dy sd f, bLaw g lo lc lz ll lm lg ld fc]) s.heap := hP
  have hD : va_D A (List.flatten [bTown g o a pe wo tx ch jo tr dy sd f, bLaw g lo lc lz ll lm lg ld fc]) := hD
  exact LP2_4 _ 0 f (by decide) rf s.heap _ ls (Nat.lt_succ_self _)  hP hD hS (lv_sub hl [0, 1, 2] rfl)
set_option maxRecDepth 100000 in
set_option maxHeartbeats 4000000 in
theorem c_write (l : Launch) (g : zG) (o : Nat) (a : Nat → Nat) (pe : Int32) (wo : Int32) (tx : Int32) (ch : Int32) (jo : Int32) (tr : Int32) (dy : Int32) (sd : Int32) (f : Nat → Nat → Int32) (go : Nat) (gr : Nat) (gz : Int32) (gn : Int32) (fr : Nat → Int32) (wh : Int32) (kn : Int32) (b_pe : 0 ≤ pe.toInt ∧ pe.toInt ≤ 8) (b_wo : 0 ≤ wo.toInt ∧ wo.toInt ≤ 6) (rf : zZ4 f) (b_gz : 0 ≤ gz.toInt ∧ gz.toInt ≤ 60) (b_gn : 0 ≤ gn.toInt ∧ gn.toInt ≤ 59) : zM' g l yX9_write (Cond.code yX9_write cX9_write 4 none :: zB) ({ frames := 2, cells := 0, slots := 0, locals := 43 } : Room) [.ref o, .ref go, .int wh, .int kn] [bTown g o a pe wo tx ch jo tr dy sd f, bLog g go gr gz gn fr] (fun u : Int32 × Int32 × (Nat → Int32) => (fun (gz2 : Int32) (gn2 : Int32) (fr2 : Nat → Int32) => none) (u.1) (u.2.1) (u.2.2)) (fun u : Int32 × Int32 × (Nat → Int32) => (fun (gz2 : Int32) (gn2 : Int32) (fr2 : Nat → Int32) => (0 ≤ gz2.toInt ∧ gz2.toInt ≤ 60) ∧ (0 ≤ gn2.toInt ∧ gn2.toInt ≤ 59)) (u.1) (u.2.1) (u.2.2)) (fun u : Int32 × Int32 × (Nat → Int32) => (fun (gz2 : Int32) (gn2 : Int32) (fr2 : Nat → Int32) => [bTown g o a pe wo tx ch jo tr dy sd f, bLog g go gr gz2 gn2 fr2]) (u.1) (u.2.1) (u.2.2)) := by
  refine zM'.of (cc := cX9_write) (maxL := 4) (rt := none) (by decide) rfl (Nat.le_of_ble_eq_true rfl) ?_
  intro p e s m args below meth c A ls St hr hlocks hin hK hT hA hP hD hS hl
  obtain ⟨hx, hb, hml, hown, hts⟩ := id St
  have hl : lv_has ls 4 [(0, .ref o), (1, .ref go), (2, .int wh), (3, .int kn)] := hl
  refine lv_aload_n hx hb dX9_write_0 rfl (lv_at hl 1 rfl) ?_
  refine lv_ifnull hx hb dX9_write_1 ?_
  refine lv_aload_n hx hb dX9_write_4 rfl (lv_at hl 1 rfl) ?_
  refine lv_aload_n hx hb dX9_write_5 rfl (lv_at hl 0 rfl) ?_
  refine va_get (D := g.1) (ci := 7) (v := .int dy) (C := RX9) (T := TX9) (N := 19) hx hb hts izRX9 hown hK hP 0 rfl rfl 6 (by decide) (hts _ k34) (fun _ h9 => h9) rfl dX9_write_6 ?_
  refine lv_iload_n hx hb dX9_write_9 rfl (lv_at hl 2 rfl) ?_
  refine lv_iload_n hx hb dX9_write_10 rfl (lv_at hl 3 rfl) ?_
  refine lv_aload_n hx hb dX9_write_11 rfl (lv_at hl 0 rfl) ?_
  refine mcallV' (g := g) (q0 := 0) (ci := 7) (As := []) (rest := [.int kn, .int wh, .int dy, .ref go]) St hK hT hA hP hD hS hl.1 [0] [1] rfl rfl rfl (c_believed l g o a pe wo tx ch jo tr dy sd f b_pe b_wo rf) (cwV 0 hts (zgL (zl4 k68 k69 k70 k24) k60) rfl rfl rfl (by decide +kernel) ⟨Nat.le_of_ble_eq_true rfl, Nat.le_of_ble_eq_true rfl⟩) rfl rfl rfl rfl (Nat.le_of_ble_eq_true rfl) dX9_write_12 ⟨(Nat.le_of_ble_eq_true rfl), (Nat.le_of_ble_eq_true rfl)⟩ (fun q_1 H locs hq2 hP hD hS => ?_)
  have hP : va_P g.1 vwCl (List.flatten [bLog g go gr gz gn fr, bTown g o a pe wo tx ch jo tr dy sd f]) H := hP
  have hD : va_D A (List.flatten [bLog g go gr gz gn fr, bTown g o a pe wo tx ch jo tr dy sd f]) := hD
  refine W.widen (k := 0) (n := 0) (Nat.le_of_ble_eq_true rfl) (Nat.le_of_ble_eq_true rfl) ?_
  refine W.eq (g2 := F0 m 15 ls [.int q_1, .int kn, .int wh, .int dy, .ref go]) rfl ?_
  refine mcallV' (g := g) (q0 := 0) (ci := 3) (As := [.int dy, .int wh, .int kn, .int q_1]) (rest := []) St hK hT hA hP hD hS hl.1 [0] [1] rfl rfl rfl (c_g_add l g go gr gz gn fr dy wh kn q_1 b_gz b_gn) (cwV 4 hts (zgL (zl4 k120 k121 k122 k123) k115) rfl rfl rfl (by decide +kernel) ⟨Nat.le_of_ble_eq_true rfl, Nat.le_of_ble_eq_true rfl⟩) rfl rfl rfl rfl (Nat.le_of_ble_eq_true rfl) dX9_write_15 ⟨(Nat.le_of_ble_eq_true rfl), (Nat.le_of_ble_eq_true rfl)⟩ (fun u_ H locs hq6 hP hD hS => ?_)
  obtain ⟨gz3_3, gn3_4, fr3_5⟩ := u_
  replace hq6 : (0 ≤ gz3_3.toInt ∧ gz3_3.toInt ≤ 60) ∧ (0 ≤ gn3_4.toInt ∧ gn3_4.toInt ≤ 59) := hq6
  have hP : va_P g.1 vwCl (List.flatten [bTown g o a pe wo tx ch jo tr dy sd f, bLog g go gr gz3_3 gn3_4 fr3_5]) H := hP
  have hD : va_D A (List.flatten [bTown g o a pe wo tx ch jo tr dy sd f, bLog g go gr gz3_3 gn3_4 fr3_5]) := hD
  refine W.widen (k := 0) (n := 0) (Nat.le_of_ble_eq_true rfl) (Nat.le_of_ble_eq_true rfl) ?_
  refine W.eq (g2 := F0 m 18 ls []) rfl ?_
  obtain ⟨hq6_0, hq6_1⟩ := hq6
  have hP : va_P g.1 vwCl (List.flatten [bTown g o a pe wo tx ch jo tr dy sd f, bLog g go gr gz3_3 gn3_4 fr3_5]) H := hP
  have hD : va_D A (List.flatten [bTown g o a pe wo tx ch jo tr dy sd f, bLog g go gr gz3_3 gn3_4 fr3_5]) := hD
  exact mret_v hx hb hr hlocks hS (Nat.le_of_ble_eq_true rfl) (Nat.le_of_ble_eq_true rfl) dX9_write_18 (gz3_3, gn3_4, fr3_5) rfl (show (0 ≤ gz3_3.toInt ∧ gz3_3.toInt ≤ 60) ∧ (0 ≤ gn3_4.toInt ∧ gn3_4.toInt ≤ 59) from ⟨hq6_0, hq6_1⟩) hP hD
set_option maxRecDepth 100000 in
set_option maxHeartbeats 4000000 in
theorem c_keepWorks (l : Launch) (g : zG) (o : Nat) (a : Nat → Nat) (pe : Int32) (wo : Int32) (tx : Int32) (ch : Int32) (jo : Int32) (tr : Int32) (dy : Int32) (sd : Int32) (f : Nat → Nat → Int32) (go : Nat) (gr : Nat) (gz : Int32) (gn : Int32) (fr : Nat → Int32) (b_pe : 0 ≤ pe.toInt ∧ pe.toInt ≤ 8) (b_wo : 0 ≤ wo.toInt ∧ wo.toInt ≤ 6) (rf : zZ4 f) (b_gz : 0 ≤ gz.toInt ∧ gz.toInt ≤ 60) (b_gn : 0 ≤ gn.toInt ∧ gn.toInt ≤ 59) : zM' g l yX9_keepWorks (Cond.code yX9_keepWorks cX9_keepWorks 5 (some .int) :: zB) ({ frames := 3, cells := 0, slots := 0, locals := 66 } : Room) [.ref o, .ref go] [bTown g o a pe wo tx ch jo tr dy sd f, bLog g go gr gz gn fr] (fun u : Int32 × (Nat → Nat → Int32) × Int32 × Int32 × (Nat → Int32) × Int32 => (fun (ch2 : Int32) (f2 : Nat → Nat → Int32) (gz2 : Int32) (gn2 : Int32) (fr2 : Nat → Int32) (q : Int32) => some (.int q)) (u.1) (u.2.1) (u.2.2.1) (u.2.2.2.1) (u.2.2.2.2.1) (u.2.2.2.2.2)) (fun u : Int32 × (Nat → Nat → Int32) × Int32 × Int32 × (Nat → Int32) × Int32 => (fun (ch2 : Int32) (f2 : Nat → Nat → Int32) (gz2 : Int32) (gn2 : Int32) (fr2 : Nat → Int32) (q : Int32) => (zZ4 f2) ∧ (0 ≤ gz2.toInt ∧ gz2.toInt ≤ 60) ∧ (0 ≤ gn2.toInt ∧ gn2.toInt ≤ 59)) (u.1) (u.2.1) (u.2.2.1) (u.2.2.2.1) (u.2.2.2.2.1) (u.2.2.2.2.2)) (fun u : Int32 × (Nat → Nat → Int32) × Int32 × Int32 × (Nat → Int32) × Int32 => (fun (ch2 : Int32) (f2 : Nat → Nat → Int32) (gz2 : Int32) (gn2 : Int32) (fr2 : Nat → Int32) (q : Int32) => [bTown g o a pe wo tx ch2 jo tr dy sd f2, bLog g go gr gz2 gn2 fr2]) (u.1) (u.2.1) (u.2.2.1) (u.2.2.2.1) (u.2.2.2.2.1) (u.2.2.2.2.2)) := by
  refine zM'.of (cc := cX9_keepWorks) (maxL := 5) (rt := (some .int)) (by decide) rfl (Nat.le_of_ble_eq_true rfl) ?_
  intro p e s m args below meth c A ls St hr hlocks hin hK hT hA hP hD hS hl
  obtain ⟨hx, hb, hml, hown, hts⟩ := id St
  have hl : lv_has ls 5 [(0, .ref o), (1, .ref go)] := hl
  refine lv_aload_n hx hb dX9_keepWorks_0 rfl (lv_at hl 0 rfl) ?_
  refine mcallV' (g := g) (q0 := 0) (ci := 7) (As := []) (rest := []) St hK hT hA hP hD hS hl.1 [0] [1] rfl rfl rfl (c_believed l g o a pe wo tx ch jo tr dy sd f b_pe b_wo rf) (cwV 0 hts (zgL (zl4 k68 k69 k70 k24) k60) rfl rfl rfl (by decide +kernel) ⟨Nat.le_of_ble_eq_true rfl, Nat.le_of_ble_eq_true rfl⟩) rfl rfl rfl rfl (Nat.le_of_ble_eq_true rfl) dX9_keepWorks_1 ⟨(Nat.le_of_ble_eq_true rfl), (Nat.le_of_ble_eq_true rfl)⟩ (fun q_1 H locs hq2 hP hD hS => ?_)
  have hP : va_P g.1 vwCl (List.flatten [bLog g go gr gz gn fr, bTown g o a pe wo tx ch jo tr dy sd f]) H := hP
  have hD : va_D A (List.flatten [bLog g go gr gz gn fr, bTown g o a pe wo tx ch jo tr dy sd f]) := hD
  refine W.widen (k := 0) (n := 0) (Nat.le_of_ble_eq_true rfl) (Nat.le_of_ble_eq_true rfl) ?_
  refine W.eq (g2 := F0 m 4 ls [.int q_1]) rfl ?_
  refine lv_istore_n (lv' := [(2, .int q_1), (0, .ref o), (1, .ref go)]) hx hb dX9_keepWorks_4 rfl hl (by decide) rfl (fun ls hl => ?_)
  refine lv_iconst (v := 0) hx hb dX9_keepWorks_5 (by decide) ?_
  refine lv_istore_n (lv' := [(3, .int 0), (2, .int q_1), (0, .ref o), (1, .ref go)]) hx hb dX9_keepWorks_6 rfl hl (by decide) rfl (fun ls hl => ?_)
  refine lv_iconst (v := 0) hx hb dX9_keepWorks_7 (by decide) ?_
  refine lv_istore (lv' := [(4, .int 0), (3, .int 0), (2, .int q_1), (0, .ref o), (1, .ref go)]) hx hb dX9_keepWorks_8 hl (by decide) rfl (fun ls hl => ?_)
  have hl := lv_sub (l' := [(0, .ref o), (1, .ref go), (2, .int q_1), (3, .int 0), (4, .int 0)]) hl [3, 4, 2, 1, 0] rfl
  have LP10_13 : ∀ (kf : Nat) (x_3 : Int32) (x_4 : Int32) (x_5 : Int32) (x_6 : Int32) (fr_7 : Nat → Int32) (x_8 : Int32) (f_9 : Nat → Nat → Int32), (0 ≤ x_4.toInt ∧ x_4.toInt ≤ 6) → (0 ≤ x_5.toInt ∧ x_5.toInt ≤ 60) → (0 ≤ x_6.toInt ∧ x_6.toInt ≤ 59) → (zZ4 f_9) → ∀ (H : Heap) (locs : List Loc) (ls : Array Slot), ((7 - x_4.toInt).toNat) < kf → va_P g.1 vwCl (List.flatten [bLog g go gr x_5 x_6 fr_7, bTown g o a pe wo tx x_8 jo tr dy sd f_9]) H → va_D A (List.flatten [bLog g go gr x_5 x_6 fr_7, bTown g o a pe wo tx x_8 jo tr dy sd f_9]) → va_S A s.heap H locs → lv_has ls 5 [(0, .ref o), (1, .ref go), (2, .int q_1), (3, .int x_3), (4, .int x_4)] → W p l e ({ frames := 3, cells := 0, slots := 0, locals := 66 } : Room) s m args below meth c H locs (0) (0) (zF g (fun u : Int32 × (Nat → Nat → Int32) × Int32 × Int32 × (Nat → Int32) × Int32 => (fun (ch2 : Int32) (f2 : Nat → Nat → Int32) (gz2 : Int32) (gn2 : Int32) (fr2 : Nat → Int32) (q : Int32) => some (.int q)) (u.1) (u.2.1) (u.2.2.1) (u.2.2.2.1) (u.2.2.2.2.1) (u.2.2.2.2.2)) (fun u : Int32 × (Nat → Nat → Int32) × Int32 × Int32 × (Nat → Int32) × Int32 => (fun (ch2 : Int32) (f2 : Nat → Nat → Int32) (gz2 : Int32) (gn2 : Int32) (fr2 : Nat → Int32) (q : Int32) => (zZ4 f2) ∧ (0 ≤ gz2.toInt ∧ gz2.toInt ≤ 60) ∧ (0 ≤ gn2.toInt ∧ gn2.toInt ≤ 59)) (u.1) (u.2.1) (u.2.2.1) (u.2.2.2.1) (u.2.2.2.2.1) (u.2.2.2.2.2)) (fun u : Int32 × (Nat → Nat → Int32) × Int32 × Int32 × (Nat → Int32) × Int32 => (fun (ch2 : Int32) (f2 : Nat → Nat → Int32) (gz2 : Int32) (gn2 : Int32) (fr2 : Nat → Int32) (q : Int32) => [bTown g o a pe wo tx ch2 jo tr dy sd f2, bLog g go gr gz2 gn2 fr2]) (u.1) (u.2.1) (u.2.2.1) (u.2.2.2.1) (u.2.2.2.2.1) (u.2.2.2.2.2)) ({ frames := 3, cells := 0, slots := 0, locals := 66 } : Room) below args s A) (F0 m 10 ls []) := by
    intro kf
    induction kf with
    | zero => intro x_3 x_4 x_5 x_6 fr_7 x_8 f_9 i10 i11 i12 rf_9 H locs ls hk; exact absurd hk (Nat.not_lt_zero _)
    | succ kf ih10_14 =>
      intro x_3 x_4 x_5 x_6 fr_7 x_8 f_9 i10 i11 i12 rf_9 H locs ls hk10_14 hP hD hS hl
      refine lv_iload hx hb dX9_keepWorks_10 (lv_at hl 4 rfl) ?_
      refine lv_aload_n hx hb dX9_keepWorks_12 rfl (lv_at hl 0 rfl) ?_
      refine va_get (D := g.1) (ci := 7) (v := .int wo) (C := RX9) (T := TX9) (N := 19) hx hb hts izRX9 hown hK hP 2 rfl rfl 1 (by decide) (hts _ k32) (fun _ h9 => h9) rfl dX9_keepWorks_13 ?_
      refine lv_icmp_ge (tgt := 172) hx hb dX9_keepWorks_16 (by decide) (fun cb9 => ?_) (fun cb9 => ?_)
      · skip
        have c15 : wo.toInt ≤ x_4.toInt := zle cb9 rfl rfl
        refine lv_iload_n hx hb dX9_keepWorks_172 rfl (lv_at hl 3 rfl) ?_
        have hP : va_P g.1 vwCl (List.flatten [bLog g go gr x_5 x_6 fr_7, bTown g o a pe wo tx x_8 jo tr dy sd f_9]) H := hP
        have hD : va_D A (List.flatten [bLog g go gr x_5 x_6 fr_7, bTown g o a pe wo tx x_8 jo tr dy sd f_9]) := hD
        obtain ⟨hP, hD⟩ := zord (g := g) (Bs' := [bTown g o a pe wo tx x_8 jo tr dy sd f_9, bLog g go gr x_5 x_6 fr_7]) [1, 0] rfl rfl hP hD
        exact mret_i hx hb hr hlocks hS (Nat.le_of_ble_eq_true rfl) (Nat.le_of_ble_eq_true rfl) dX9_keepWorks_173 (x_8, f_9, x_5, x_6, fr_7, x_3) rfl (show (zZ4 f_9) ∧ (0 ≤ x_5.toInt ∧ x_5.toInt ≤ 60) ∧ (0 ≤ x_6.toInt ∧ x_6.toInt ≤ 59) from ⟨rf_9, i11, i12⟩) hP hD
      · skip
        have c16 : x_4.toInt < wo.toInt := zlti (Int32.not_le.mp cb9) rfl rfl
        have n17 : x_4.toInt ≤ 5 := zL1 (b := 6) c16 b_wo.2 (by decide)
        have n18 : 1 ≤ wo.toInt := zL2 (a := 0) c16 i10.1 (by decide)
        refine lv_aload_n hx hb dX9_keepWorks_19 rfl (lv_at hl 0 rfl) ?_
        refine va_get (D := g.1) (ci := 7) (v := .ref (a 9)) (C := RX9) (T := TX9) (N := 19) hx hb hts izRX9 hown hK hP 2 rfl rfl 17 (by decide) (hts _ k19) (fun _ h9 => h9) rfl dX9_keepWorks_20 ?_
        refine lv_iload hx hb dX9_keepWorks_23 (lv_at hl 4 rfl) ?_
        refine va_iald hx hb hK hP 12 0 rfl rfl (zinK (a := 0) (b := 5) i10.1 n17 (by decide)) dX9_keepWorks_25 ?_
        refine zg (fun x_19 => ?_)
        refine lv_if_ne (tgt := 89) hx hb dX9_keepWorks_26 (by decide) (fun cb9 => ?_) (fun cb9 => ?_)
        · skip
          have c20 : ¬ x_19.toInt = 0 := zne cb9 rfl (by decide)
          refine lv_aload_n hx hb dX9_keepWorks_89 rfl (lv_at hl 0 rfl) ?_
          refine va_get (D := g.1) (ci := 7) (v := .ref (a 9)) (C := RX9) (T := TX9) (N := 19) hx hb hts izRX9 hown hK hP 2 rfl rfl 17 (by decide) (hts _ k19) (fun _ h9 => h9) rfl dX9_keepWorks_90 ?_
          refine lv_iload hx hb dX9_keepWorks_93 (lv_at hl 4 rfl) ?_
          refine va_iald hx hb hK hP 12 0 rfl rfl (zinK (a := 0) (b := 5) i10.1 n17 (by decide)) dX9_keepWorks_95 ?_
          refine zg (fun x_21 => ?_)
          refine lv_iconst (v := 1) hx hb dX9_keepWorks_96 (by decide) ?_
          refine lv_icmp_ne (tgt := 133) hx hb dX9_keepWorks_97 (by decide) (fun cb9 => ?_) (fun cb9 => ?_)
          · skip
            have c22 : ¬ x_21.toInt = 1 := zne cb9 rfl (by decide)
            refine lv_aload_n hx hb dX9_keepWorks_133 rfl (lv_at hl 0 rfl) ?_
            refine va_get (D := g.1) (ci := 7) (v := .ref (a 9)) (C := RX9) (T := TX9) (N := 19) hx hb hts izRX9 hown hK hP 2 rfl rfl 17 (by decide) (hts _ k19) (fun _ h9 => h9) rfl dX9_keepWorks_134 ?_
            refine lv_iload hx hb dX9_keepWorks_137 (lv_at hl 4 rfl) ?_
            refine va_iald hx hb hK hP 12 0 rfl rfl (zinK (a := 0) (b := 5) i10.1 n17 (by decide)) dX9_keepWorks_139 ?_
            refine zg (fun x_23 => ?_)
            refine lv_iconst (v := 1) hx hb dX9_keepWorks_140 (by decide) ?_
            refine lv_icmp_ne (tgt := 166) hx hb dX9_keepWorks_141 (by decide) (fun cb9 => ?_) (fun cb9 => ?_)
            · skip
              have c24 : ¬ x_23.toInt = 1 := zne cb9 rfl (by decide)
              refine ziinc3 (n' := 1) (a' := 1) (b' := 6) (lv' := fun v9 => [(4, .int v9), (0, .ref o), (1, .ref go), (2, .int q_1), (3, .int x_3)]) hx hb dX9_keepWorks_166 hl (k := 4) rfl (by decide) (fun _ => rfl) (zaddK (i := x_4.toInt) (j := 1) rfl (by decide) i10.1 n17 (Int.le_refl _) (Int.le_refl _) (by decide)) (fun x_25 ls hx_25 hl => ?_)
              refine lv_goto (tgt := 10) hx hb dX9_keepWorks_169 (by decide) ?_
              have hl := lv_sub (l' := [(0, .ref o), (1, .ref go), (2, .int q_1), (3, .int x_3), (4, .int x_25)]) hl [1, 2, 3, 4, 0] rfl
              have hP : va_P g.1 vwCl (List.flatten [bLog g go gr x_5 x_6 fr_7, bTown g o a pe wo tx x_8 jo tr dy sd f_9]) H := hP
              have hD : va_D A (List.flatten [bLog g go gr x_5 x_6 fr_7, bTown g o a pe wo tx x_8 jo tr dy sd f_9]) := hD
              exact ih10_14 x_3 x_25 x_5 x_6 fr_7 x_8 f_9 ⟨(Int.le_trans (by decide) hx_25.2.1), hx_25.2.2⟩ ⟨i11.1, i11.2⟩ ⟨i12.1, i12.2⟩ rf_9 H _ ls (zmK hx_25.1 (by decide) n17 (by decide) hk10_14)  hP hD hS (lv_sub hl [0, 1, 2, 3, 4] rfl)
            · skip
              have c26 : x_23.toInt = 1 := zeq cb9 rfl (by decide)
              have n27 : 1 ≤ x_23.toInt := Int.le_trans (Int.le_refl _) (Int.le_of_eq c26.symm)
              have n28 : x_23.toInt ≤ 1 := Int.le_trans (Int.le_of_eq c26) (Int.le_refl _)
              refine lv_aload_n hx hb dX9_keepWorks_144 rfl (lv_at hl 0 rfl) ?_
              refine lv_sipush (v := 9999) hx hb dX9_keepWorks_145 (by decide) ?_
              refine lv_aload_n hx hb dX9_keepWorks_148 rfl (lv_at hl 0 rfl) ?_
              refine va_get (D := g.1) (ci := 7) (v := .int x_8) (C := RX9) (T := TX9) (N := 19) hx hb hts izRX9 hown hK hP 2 rfl rfl 3 (by decide) (hts _ k4) (fun _ h9 => h9) rfl dX9_keepWorks_149 ?_
              refine lv_aload_n hx hb dX9_keepWorks_152 rfl (lv_at hl 0 rfl) ?_
              refine va_get (D := g.1) (ci := 7) (v := .ref (a 8)) (C := RX9) (T := TX9) (N := 19) hx hb hts izRX9 hown hK hP 2 rfl rfl 16 (by decide) (hts _ k18) (fun _ h9 => h9) rfl dX9_keepWorks_153 ?_
              refine lv_iload hx hb dX9_keepWorks_156 (lv_at hl 4 rfl) ?_
              refine va_iald hx hb hK hP 11 0 rfl rfl (zinK (a := 0) (b := 5) i10.1 n17 (by decide)) dX9_keepWorks_158 ?_
              refine zg (fun x_29 => ?_)
              refine lv_iadd hx hb dX9_keepWorks_159 ?_
              refine zg (fun x_30 => ?_)
              refine va_mmin hx hb (by rw [hml]; exact hl.1.symm) hown (hts _ k40) (hts _ k41) (hts _ k42) (hts _ k43) (Nat.le_of_ble_eq_true rfl) (Nat.le_of_ble_eq_true rfl) (Nat.le_of_ble_eq_true rfl) (Nat.le_of_ble_eq_true rfl) dX9_keepWorks_160 ?_
              refine zgmn (i := 9999) (j := x_30.toInt) (by decide) rfl (fun x_31 hx_31 => ?_)
              refine va_put (D := g.1) (ci := 7) (v := .int x_31) (ty := .int) (C := RX9) (T := TX9) (N := 19) hx hb hts izRX9 tyX9 tyX9_ok nmX9 hown hK hP hD hS 2 rfl rfl 3 (by decide) (hts _ k4) (fun _ h9 => h9) rfl (by decide +kernel) rfl rfl (Nat.le_of_ble_eq_true rfl) dX9_keepWorks_163 (fun H locs hP hD hS => ?_)
              have hP : va_P g.1 vwCl (List.flatten [bLog g go gr x_5 x_6 fr_7, bTown g o a pe wo tx x_31 jo tr dy sd f_9]) H := hP
              have hD : va_D A (List.flatten [bLog g go gr x_5 x_6 fr_7, bTown g o a pe wo tx x_31 jo tr dy sd f_9]) := hD
              refine ziinc3 (n' := 1) (a' := 1) (b' := 6) (lv' := fun v9 => [(4, .int v9), (0, .ref o), (1, .ref go), (2, .int q_1), (3, .int x_3)]) hx hb dX9_keepWorks_166 hl (k := 4) rfl (by decide) (fun _ => rfl) (zaddK (i := x_4.toInt) (j := 1) rfl (by decide) i10.1 n17 (Int.le_refl _) (Int.le_refl _) (by decide)) (fun x_32 ls hx_32 hl => ?_)
              refine lv_goto (tgt := 10) hx hb dX9_keepWorks_169 (by decide) ?_
              have hl := lv_sub (l' := [(0, .ref o), (1, .ref go), (2, .int q_1), (3, .int x_3), (4, .int x_32)]) hl [1, 2, 3, 4, 0] rfl
              have hP : va_P g.1 vwCl (List.flatten [bLog g go gr x_5 x_6 fr_7, bTown g o a pe wo tx x_31 jo tr dy sd f_9]) H := hP
              have hD : va_D A (List.flatten [bLog g go gr x_5 x_6 fr_7, bTown g o a pe wo tx x_31 jo tr dy sd f_9]) := hD
              exact ih10_14 x_3 x_32 x_5 x_6 fr_7 x_31 f_9 ⟨(Int.le_trans (by decide) hx_32.2.1), hx_32.2.2⟩ ⟨i11.1, i11.2⟩ ⟨i12.1, i12.2⟩ rf_9 H _ ls (zmK hx_32.1 (by decide) n17 (by decide) hk10_14)  hP hD hS (lv_sub hl [0, 1, 2, 3, 4] rfl)
          · skip
            have c33 : x_21.toInt = 1 := zeq cb9 rfl (by decide)
            have n34 : 1 ≤ x_21.toInt := Int.le_trans (Int.le_refl _) (Int.le_of_eq c33.symm)
            have n35 : x_21.toInt ≤ 1 := Int.le_trans (Int.le_of_eq c33) (Int.le_refl _)
            refine lv_iload_n hx hb dX9_keepWorks_100 rfl (lv_at hl 2 rfl) ?_
            refine lv_aload_n hx hb dX9_keepWorks_101 rfl (lv_at hl 0 rfl) ?_
            refine va_get (D := g.1) (ci := 7) (v := .ref (a 7)) (C := RX9) (T := TX9) (N := 19) hx hb hts izRX9 hown hK hP 2 rfl rfl 15 (by decide) (hts _ k17) (fun _ h9 => h9) rfl dX9_keepWorks_102 ?_
            refine lv_iload hx hb dX9_keepWorks_105 (lv_at hl 4 rfl) ?_
            refine va_iald hx hb hK hP 10 0 rfl rfl (zinK (a := 0) (b := 5) i10.1 n17 (by decide)) dX9_keepWorks_107 ?_
            refine zg (fun x_36 => ?_)
            refine lv_icmp_ge (tgt := 133) hx hb dX9_keepWorks_108 (by decide) (fun cb9 => ?_) (fun cb9 => ?_)
            · skip
              have c37 : x_36.toInt ≤ q_1.toInt := zle cb9 rfl rfl
              refine lv_aload_n hx hb dX9_keepWorks_133 rfl (lv_at hl 0 rfl) ?_
              refine va_get (D := g.1) (ci := 7) (v := .ref (a 9)) (C := RX9) (T := TX9) (N := 19) hx hb hts izRX9 hown hK hP 2 rfl rfl 17 (by decide) (hts _ k19) (fun _ h9 => h9) rfl dX9_keepWorks_134 ?_
              refine lv_iload hx hb dX9_keepWorks_137 (lv_at hl 4 rfl) ?_
              refine va_iald hx hb hK hP 12 0 rfl rfl (zinK (a := 0) (b := 5) i10.1 n17 (by decide)) dX9_keepWorks_139 ?_
              refine zg (fun x_38 => ?_)
              refine lv_iconst (v := 1) hx hb dX9_keepWorks_140 (by decide) ?_
              refine lv_icmp_ne (tgt := 166) hx hb dX9_keepWorks_141 (by decide) (fun cb9 => ?_) (fun cb9 => ?_)
              · skip
                have c39 : ¬ x_38.toInt = 1 := zne cb9 rfl (by decide)
                refine ziinc3 (n' := 1) (a' := 1) (b' := 6) (lv' := fun v9 => [(4, .int v9), (0, .ref o), (1, .ref go), (2, .int q_1), (3, .int x_3)]) hx hb dX9_keepWorks_166 hl (k := 4) rfl (by decide) (fun _ => rfl) (zaddK (i := x_4.toInt) (j := 1) rfl (by decide) i10.1 n17 (Int.le_refl _) (Int.le_refl _) (by decide)) (fun x_40 ls hx_40 hl => ?_)
                refine lv_goto (tgt := 10) hx hb dX9_keepWorks_169 (by decide) ?_
                have hl := lv_sub (l' := [(0, .ref o), (1, .ref go), (2, .int q_1), (3, .int x_3), (4, .int x_40)]) hl [1, 2, 3, 4, 0] rfl
                have hP : va_P g.1 vwCl (List.flatten [bLog g go gr x_5 x_6 fr_7, bTown g o a pe wo tx x_8 jo tr dy sd f_9]) H := hP
                have hD : va_D A (List.flatten [bLog g go gr x_5 x_6 fr_7, bTown g o a pe wo tx x_8 jo tr dy sd f_9]) := hD
                exact ih10_14 x_3 x_40 x_5 x_6 fr_7 x_8 f_9 ⟨(Int.le_trans (by decide) hx_40.2.1), hx_40.2.2⟩ ⟨i11.1, i11.2⟩ ⟨i12.1, i12.2⟩ rf_9 H _ ls (zmK hx_40.1 (by decide) n17 (by decide) hk10_14)  hP hD hS (lv_sub hl [0, 1, 2, 3, 4] rfl)
              · skip
                have c41 : x_38.toInt = 1 := zeq cb9 rfl (by decide)
                have n42 : 1 ≤ x_38.toInt := Int.le_trans (Int.le_refl _) (Int.le_of_eq c41.symm)
                have n43 : x_38.toInt ≤ 1 := Int.le_trans (Int.le_of_eq c41) (Int.le_refl _)
                refine lv_aload_n hx hb dX9_keepWorks_144 rfl (lv_at hl 0 rfl) ?_
                refine lv_sipush (v := 9999) hx hb dX9_keepWorks_145 (by decide) ?_
                refine lv_aload_n hx hb dX9_keepWorks_148 rfl (lv_at hl 0 rfl) ?_
                refine va_get (D := g.1) (ci := 7) (v := .int x_8) (C := RX9) (T := TX9) (N := 19) hx hb hts izRX9 hown hK hP 2 rfl rfl 3 (by decide) (hts _ k4) (fun _ h9 => h9) rfl dX9_keepWorks_149 ?_
                refine lv_aload_n hx hb dX9_keepWorks_152 rfl (lv_at hl 0 rfl) ?_
                refine va_get (D := g.1) (ci := 7) (v := .ref (a 8)) (C := RX9) (T := TX9) (N := 19) hx hb hts izRX9 hown hK hP 2 rfl rfl 16 (by decide) (hts _ k18) (fun _ h9 => h9) rfl dX9_keepWorks_153 ?_
                refine lv_iload hx hb dX9_keepWorks_156 (lv_at hl 4 rfl) ?_
                refine va_iald hx hb hK hP 11 0 rfl rfl (zinK (a := 0) (b := 5) i10.1 n17 (by decide)) dX9_keepWorks_158 ?_
                refine zg (fun x_44 => ?_)
                refine lv_iadd hx hb dX9_keepWorks_159 ?_
                refine zg (fun x_45 => ?_)
                refine va_mmin hx hb (by rw [hml]; exact hl.1.symm) hown (hts _ k40) (hts _ k41) (hts _ k42) (hts _ k43) (Nat.le_of_ble_eq_true rfl) (Nat.le_of_ble_eq_true rfl) (Nat.le_of_ble_eq_true rfl) (Nat.le_of_ble_eq_true rfl) dX9_keepWorks_160 ?_
                refine zgmn (i := 9999) (j := x_45.toInt) (by decide) rfl (fun x_46 hx_46 => ?_)
                refine va_put (D := g.1) (ci := 7) (v := .int x_46) (ty := .int) (C := RX9) (T := TX9) (N := 19) hx hb hts izRX9 tyX9 tyX9_ok nmX9 hown hK hP hD hS 2 rfl rfl 3 (by decide) (hts _ k4) (fun _ h9 => h9) rfl (by decide +kernel) rfl rfl (Nat.le_of_ble_eq_true rfl) dX9_keepWorks_163 (fun H locs hP hD hS => ?_)
                have hP : va_P g.1 vwCl (List.flatten [bLog g go gr x_5 x_6 fr_7, bTown g o a pe wo tx x_46 jo tr dy sd f_9]) H := hP
                have hD : va_D A (List.flatten [bLog g go gr x_5 x_6 fr_7, bTown g o a pe wo tx x_46 jo tr dy sd f_9]) := hD
                refine ziinc3 (n' := 1) (a' := 1) (b' := 6) (lv' := fun v9 => [(4, .int v9), (0, .ref o), (1, .ref go), (2, .int q_1), (3, .int x_3)]) hx hb dX9_keepWorks_166 hl (k := 4) rfl (by decide) (fun _ => rfl) (zaddK (i := x_4.toInt) (j := 1) rfl (by decide) i10.1 n17 (Int.le_refl _) (Int.le_refl _) (by decide)) (fun x_47 ls hx_47 hl => ?_)
                refine lv_goto (tgt := 10) hx hb dX9_keepWorks_169 (by decide) ?_
                have hl := lv_sub (l' := [(0, .ref o), (1, .ref go), (2, .int q_1), (3, .int x_3), (4, .int x_47)]) hl [1, 2, 3, 4, 0] rfl
                have hP : va_P g.1 vwCl (List.flatten [bLog g go gr x_5 x_6 fr_7, bTown g o a pe wo tx x_46 jo tr dy sd f_9]) H := hP
                have hD : va_D A (List.flatten [bLog g go gr x_5 x_6 fr_7, bTown g o a pe wo tx x_46 jo tr dy sd f_9]) := hD
                exact ih10_14 x_3 x_47 x_5 x_6 fr_7 x_46 f_9 ⟨(Int.le_trans (by decide) hx_47.2.1), hx_47.2.2⟩ ⟨i11.1, i11.2⟩ ⟨i12.1, i12.2⟩ rf_9 H _ ls (zmK hx_47.1 (by decide) n17 (by decide) hk10_14)  hP hD hS (lv_sub hl [0, 1, 2, 3, 4] rfl)
            · skip
              have c48 : q_1.toInt < x_36.toInt := zlti (Int32.not_le.mp cb9) rfl rfl
              refine lv_aload_n hx hb dX9_keepWorks_111 rfl (lv_at hl 0 rfl) ?_
              refine va_get (D := g.1) (ci := 7) (v := .ref (a 9)) (C := RX9) (T := TX9) (N := 19) hx hb hts izRX9 hown hK hP 2 rfl rfl 17 (by decide) (hts _ k19) (fun _ h9 => h9) rfl dX9_keepWorks_112 ?_
              refine lv_iload hx hb dX9_keepWorks_115 (lv_at hl 4 rfl) ?_
              refine lv_iconst (v := 2) hx hb dX9_keepWorks_117 (by decide) ?_
              refine va_iast hx hb hK hP hD hS 12 0 rfl rfl (zinK (a := 0) (b := 5) i10.1 n17 (by decide)) dX9_keepWorks_118 (fun H locs hP hD hS => ?_)
              obtain ⟨f49, rf49, hP, hD⟩ : ∃ f49 : Nat → Nat → Int32, zZ4 f49 ∧ va_P g.1 vwCl (List.flatten [bLog g go gr x_5 x_6 fr_7, bTown g o a pe wo tx x_8 jo tr dy sd f49]) H ∧ va_D A (List.flatten [bLog g go gr x_5 x_6 fr_7, bTown g o a pe wo tx x_8 jo tr dy sd f49]) := ⟨zu f_9 9 (upd (f_9 9) x_4.toNatClampNeg 2), (zZ4_u rf_9 (by decide)), hP, hD⟩
              refine ziincG (lv' := fun v9 => [(3, .int v9), (0, .ref o), (1, .ref go), (2, .int q_1), (4, .int x_4)]) hx hb dX9_keepWorks_119 hl (k := 3) rfl (by decide) (fun _ => rfl) (fun x_50 ls hl => ?_)
              refine lv_aload_n hx hb dX9_keepWorks_122 rfl (lv_at hl 1 rfl) ?_
              refine lv_aload_n hx hb dX9_keepWorks_123 rfl (lv_at hl 2 rfl) ?_
              refine lv_iload hx hb dX9_keepWorks_124 (lv_at hl 4 rfl) ?_
              refine lv_iconst (v := 1) hx hb dX9_keepWorks_126 (by decide) ?_
              refine mcallV' (g := g) (q0 := 0) (ci := 7) (As := [.ref go, .int x_4, .int 1]) (rest := []) St hK hT hA hP hD hS hl.1 [1, 0] [] rfl rfl rfl (c_write l g o a pe wo tx x_8 jo tr dy sd f49 go gr x_5 x_6 fr_7 x_4 1 b_pe b_wo rf49 i11 i12) (cwV 3 hts (zgL (zl4 k125 k126 k127 k24) k124) rfl rfl rfl (by decide +kernel) ⟨Nat.le_of_ble_eq_true rfl, Nat.le_of_ble_eq_true rfl⟩) rfl rfl rfl rfl (Nat.le_of_ble_eq_true rfl) dX9_keepWorks_127 ⟨(Nat.le_of_ble_eq_true rfl), (Nat.le_of_ble_eq_true rfl)⟩ (fun u_ H locs hq54 hP hD hS => ?_)
              obtain ⟨gz2_51, gn2_52, fr2_53⟩ := u_
              replace hq54 : (0 ≤ gz2_51.toInt ∧ gz2_51.toInt ≤ 60) ∧ (0 ≤ gn2_52.toInt ∧ gn2_52.toInt ≤ 59) := hq54
              have hP : va_P g.1 vwCl (List.flatten [bTown g o a pe wo tx x_8 jo tr dy sd f49, bLog g go gr gz2_51 gn2_52 fr2_53]) H := hP
              have hD : va_D A (List.flatten [bTown g o a pe wo tx x_8 jo tr dy sd f49, bLog g go gr gz2_51 gn2_52 fr2_53]) := hD
              refine W.widen (k := 0) (n := 0) (Nat.le_of_ble_eq_true rfl) (Nat.le_of_ble_eq_true rfl) ?_
              refine W.eq (g2 := F0 m 130 ls []) rfl ?_
              obtain ⟨hq54_0, hq54_1⟩ := hq54
              refine lv_goto (tgt := 166) hx hb dX9_keepWorks_130 (by decide) ?_
              refine ziinc3 (n' := 1) (a' := 1) (b' := 6) (lv' := fun v9 => [(4, .int v9), (3, .int x_50), (0, .ref o), (1, .ref go), (2, .int q_1)]) hx hb dX9_keepWorks_166 hl (k := 4) rfl (by decide) (fun _ => rfl) (zaddK (i := x_4.toInt) (j := 1) rfl (by decide) i10.1 n17 (Int.le_refl _) (Int.le_refl _) (by decide)) (fun x_55 ls hx_55 hl => ?_)
              refine lv_goto (tgt := 10) hx hb dX9_keepWorks_169 (by decide) ?_
              have hl := lv_sub (l' := [(0, .ref o), (1, .ref go), (2, .int q_1), (3, .int x_50), (4, .int x_55)]) hl [2, 3, 4, 1, 0] rfl
              have hP : va_P g.1 vwCl (List.flatten [bTown g o a pe wo tx x_8 jo tr dy sd f49, bLog g go gr gz2_51 gn2_52 fr2_53]) H := hP
              have hD : va_D A (List.flatten [bTown g o a pe wo tx x_8 jo tr dy sd f49, bLog g go gr gz2_51 gn2_52 fr2_53]) := hD
              obtain ⟨hP, hD⟩ := zord (g := g) (Bs' := [bLog g go gr gz2_51 gn2_52 fr2_53, bTown g o a pe wo tx x_8 jo tr dy sd f49]) [1, 0] rfl rfl hP hD
              have hP : va_P g.1 vwCl (List.flatten [bLog g go gr gz2_51 gn2_52 fr2_53, bTown g o a pe wo tx x_8 jo tr dy sd f49]) H := hP
              have hD : va_D A (List.flatten [bLog g go gr gz2_51 gn2_52 fr2_53, bTown g o a pe wo tx x_8 jo tr dy sd f49]) := hD
              exact ih10_14 x_50 x_55 gz2_51 gn2_52 fr2_53 x_8 f49 ⟨(Int.le_trans (by decide) hx_55.2.1), hx_55.2.2⟩ ⟨hq54_0.1, hq54_0.2⟩ ⟨hq54_1.1, hq54_1.2⟩ rf49 H _ ls (zmK hx_55.1 (by decide) n17 (by decide) hk10_14)  hP hD hS (lv_sub hl [0, 1, 2, 3, 4] rfl)
        · skip
          have c56 : x_19.toInt = 0 := zeq cb9 rfl (by decide)
          have n57 : 0 ≤ x_19.toInt := Int.le_trans (Int.le_refl _) (Int.le_of_eq c56.symm)
          have n58 : x_19.toInt ≤ 0 := Int.le_trans (Int.le_of_eq c56) (Int.le_refl _)
          refine lv_iload_n hx hb dX9_keepWorks_29 rfl (lv_at hl 2 rfl) ?_
          refine lv_aload_n hx hb dX9_keepWorks_30 rfl (lv_at hl 0 rfl) ?_
          refine va_get (D := g.1) (ci := 7) (v := .ref (a 7)) (C := RX9) (T := TX9) (N := 19) hx hb hts izRX9 hown hK hP 2 rfl rfl 15 (by decide) (hts _ k17) (fun _ h9 => h9) rfl dX9_keepWorks_31 ?_
          refine lv_iload hx hb dX9_keepWorks_34 (lv_at hl 4 rfl) ?_
          refine va_iald hx hb hK hP 10 0 rfl rfl (zinK (a := 0) (b := 5) i10.1 n17 (by decide)) dX9_keepWorks_36 ?_
          refine zg (fun x_59 => ?_)
          refine lv_icmp_lt (tgt := 89) hx hb dX9_keepWorks_37 (by decide) (fun cb9 => ?_) (fun cb9 => ?_)
          · skip
            have c60 : q_1.toInt < x_59.toInt := zlti cb9 rfl rfl
            refine lv_aload_n hx hb dX9_keepWorks_89 rfl (lv_at hl 0 rfl) ?_
            refine va_get (D := g.1) (ci := 7) (v := .ref (a 9)) (C := RX9) (T := TX9) (N := 19) hx hb hts izRX9 hown hK hP 2 rfl rfl 17 (by decide) (hts _ k19) (fun _ h9 => h9) rfl dX9_keepWorks_90 ?_
            refine lv_iload hx hb dX9_keepWorks_93 (lv_at hl 4 rfl) ?_
            refine va_iald hx hb hK hP 12 0 rfl rfl (zinK (a := 0) (b := 5) i10.1 n17 (by decide)) dX9_keepWorks_95 ?_
            refine zg (fun x_61 => ?_)
            refine lv_iconst (v := 1) hx hb dX9_keepWorks_96 (by decide) ?_
            refine lv_icmp_ne (tgt := 133) hx hb dX9_keepWorks_97 (by decide) (fun cb9 => ?_) (fun cb9 => ?_)
            · skip
              have c62 : ¬ x_61.toInt = 1 := zne cb9 rfl (by decide)
              refine lv_aload_n hx hb dX9_keepWorks_133 rfl (lv_at hl 0 rfl) ?_
              refine va_get (D := g.1) (ci := 7) (v := .ref (a 9)) (C := RX9) (T := TX9) (N := 19) hx hb hts izRX9 hown hK hP 2 rfl rfl 17 (by decide) (hts _ k19) (fun _ h9 => h9) rfl dX9_keepWorks_134 ?_
              refine lv_iload hx hb dX9_keepWorks_137 (lv_at hl 4 rfl) ?_
              refine va_iald hx hb hK hP 12 0 rfl rfl (zinK (a := 0) (b := 5) i10.1 n17 (by decide)) dX9_keepWorks_139 ?_
              refine zg (fun x_63 => ?_)
              refine lv_iconst (v := 1) hx hb dX9_keepWorks_140 (by decide) ?_
              refine lv_icmp_ne (tgt := 166) hx hb dX9_keepWorks_141 (by decide) (fun cb9 => ?_) (fun cb9 => ?_)
              · skip
                have c64 : ¬ x_63.toInt = 1 := zne cb9 rfl (by decide)
                refine ziinc3 (n' := 1) (a' := 1) (b' := 6) (lv' := fun v9 => [(4, .int v9), (0, .ref o), (1, .ref go), (2, .int q_1), (3, .int x_3)]) hx hb dX9_keepWorks_166 hl (k := 4) rfl (by decide) (fun _ => rfl) (zaddK (i := x_4.toInt) (j := 1) rfl (by decide) i10.1 n17 (Int.le_refl _) (Int.le_refl _) (by decide)) (fun x_65 ls hx_65 hl => ?_)
                refine lv_goto (tgt := 10) hx hb dX9_keepWorks_169 (by decide) ?_
                have hl := lv_sub (l' := [(0, .ref o), (1, .ref go), (2, .int q_1), (3, .int x_3), (4, .int x_65)]) hl [1, 2, 3, 4, 0] rfl
                have hP : va_P g.1 vwCl (List.flatten [bLog g go gr x_5 x_6 fr_7, bTown g o a pe wo tx x_8 jo tr dy sd f_9]) H := hP
                have hD : va_D A (List.flatten [bLog g go gr x_5 x_6 fr_7, bTown g o a pe wo tx x_8 jo tr dy sd f_9]) := hD
                exact ih10_14 x_3 x_65 x_5 x_6 fr_7 x_8 f_9 ⟨(Int.le_trans (by decide) hx_65.2.1), hx_65.2.2⟩ ⟨i11.1, i11.2⟩ ⟨i12.1, i12.2⟩ rf_9 H _ ls (zmK hx_65.1 (by decide) n17 (by decide) hk10_14)  hP hD hS (lv_sub hl [0, 1, 2, 3, 4] rfl)
              · skip
                have c66 : x_63.toInt = 1 := zeq cb9 rfl (by decide)
                have n67 : 1 ≤ x_63.toInt := Int.le_trans (Int.le_refl _) (Int.le_of_eq c66.symm)
                have n68 : x_63.toInt ≤ 1 := Int.le_trans (Int.le_of_eq c66) (Int.le_refl _)
                refine lv_aload_n hx hb dX9_keepWorks_144 rfl (lv_at hl 0 rfl) ?_
                refine lv_sipush (v := 9999) hx hb dX9_keepWorks_145 (by decide) ?_
                refine lv_aload_n hx hb dX9_keepWorks_148 rfl (lv_at hl 0 rfl) ?_
                refine va_get (D := g.1) (ci := 7) (v := .int x_8) (C := RX9) (T := TX9) (N := 19) hx hb hts izRX9 hown hK hP 2 rfl rfl 3 (by decide) (hts _ k4) (fun _ h9 => h9) rfl dX9_keepWorks_149 ?_
                refine lv_aload_n hx hb dX9_keepWorks_152 rfl (lv_at hl 0 rfl) ?_
                refine va_get (D := g.1) (ci := 7) (v := .ref (a 8)) (C := RX9) (T := TX9) (N := 19) hx hb hts izRX9 hown hK hP 2 rfl rfl 16 (by decide) (hts _ k18) (fun _ h9 => h9) rfl dX9_keepWorks_153 ?_
                refine lv_iload hx hb dX9_keepWorks_156 (lv_at hl 4 rfl) ?_
                refine va_iald hx hb hK hP 11 0 rfl rfl (zinK (a := 0) (b := 5) i10.1 n17 (by decide)) dX9_keepWorks_158 ?_
                refine zg (fun x_69 => ?_)
                refine lv_iadd hx hb dX9_keepWorks_159 ?_
                refine zg (fun x_70 => ?_)
                refine va_mmin hx hb (by rw [hml]; exact hl.1.symm) hown (hts _ k40) (hts _ k41) (hts _ k42) (hts _ k43) (Nat.le_of_ble_eq_true rfl) (Nat.le_of_ble_eq_true rfl) (Nat.le_of_ble_eq_true rfl) (Nat.le_of_ble_eq_true rfl) dX9_keepWorks_160 ?_
                refine zgmn (i := 9999) (j := x_70.toInt) (by decide) rfl (fun x_71 hx_71 => ?_)
                refine va_put (D := g.1) (ci := 7) (v := .int x_71) (ty := .int) (C := RX9) (T := TX9) (N := 19) hx hb hts izRX9 tyX9 tyX9_ok nmX9 hown hK hP hD hS 2 rfl rfl 3 (by decide) (hts _ k4) (fun _ h9 => h9) rfl (by decide +kernel) rfl rfl (Nat.le_of_ble_eq_true rfl) dX9_keepWorks_163 (fun H locs hP hD hS => ?_)
                have hP : va_P g.1 vwCl (List.flatten [bLog g go gr x_5 x_6 fr_7, bTown g o a pe wo tx x_71 jo tr dy sd f_9]) H := hP
                have hD : va_D A (List.flatten [bLog g go gr x_5 x_6 fr_7, bTown g o a pe wo tx x_71 jo tr dy sd f_9]) := hD
                refine ziinc3 (n' := 1) (a' := 1) (b' := 6) (lv' := fun v9 => [(4, .int v9), (0, .ref o), (1, .ref go), (2, .int q_1), (3, .int x_3)]) hx hb dX9_keepWorks_166 hl (k := 4) rfl (by decide) (fun _ => rfl) (zaddK (i := x_4.toInt) (j := 1) rfl (by decide) i10.1 n17 (Int.le_refl _) (Int.le_refl _) (by decide)) (fun x_72 ls hx_72 hl => ?_)
                refine lv_goto (tgt := 10) hx hb dX9_keepWorks_169 (by decide) ?_
                have hl := lv_sub (l' := [(0, .ref o), (1, .ref go), (2, .int q_1), (3, .int x_3), (4, .int x_72)]) hl [1, 2, 3, 4, 0] rfl
                have hP : va_P g.1 vwCl (List.flatten [bLog g go gr x_5 x_6 fr_7, bTown g o a pe wo tx x_71 jo tr dy sd f_9]) H := hP
                have hD : va_D A (List.flatten [bLog g go gr x_5 x_6 fr_7, bTown g o a pe wo tx x_71 jo tr dy sd f_9]) := hD
                exact ih10_14 x_3 x_72 x_5 x_6 fr_7 x_71 f_9 ⟨(Int.le_trans (by decide) hx_72.2.1), hx_72.2.2⟩ ⟨i11.1, i11.2⟩ ⟨i12.1, i12.2⟩ rf_9 H _ ls (zmK hx_72.1 (by decide) n17 (by decide) hk10_14)  hP hD hS (lv_sub hl [0, 1, 2, 3, 4] rfl)
            · skip
              have c73 : x_61.toInt = 1 := zeq cb9 rfl (by decide)
              have n74 : 1 ≤ x_61.toInt := Int.le_trans (Int.le_refl _) (Int.le_of_eq c73.symm)
              have n75 : x_61.toInt ≤ 1 := Int.le_trans (Int.le_of_eq c73) (Int.le_refl _)
              refine lv_iload_n hx hb dX9_keepWorks_100 rfl (lv_at hl 2 rfl) ?_
              refine lv_aload_n hx hb dX9_keepWorks_101 rfl (lv_at hl 0 rfl) ?_
              refine va_get (D := g.1) (ci := 7) (v := .ref (a 7)) (C := RX9) (T := TX9) (N := 19) hx hb hts izRX9 hown hK hP 2 rfl rfl 15 (by decide) (hts _ k17) (fun _ h9 => h9) rfl dX9_keepWorks_102 ?_
              refine lv_iload hx hb dX9_keepWorks_105 (lv_at hl 4 rfl) ?_
              refine va_iald hx hb hK hP 10 0 rfl rfl (zinK (a := 0) (b := 5) i10.1 n17 (by decide)) dX9_keepWorks_107 ?_
              refine zg (fun x_76 => ?_)
              refine lv_icmp_ge (tgt := 133) hx hb dX9_keepWorks_108 (by decide) (fun cb9 => ?_) (fun cb9 => ?_)
              · skip
                have c77 : x_76.toInt ≤ q_1.toInt := zle cb9 rfl rfl
                refine lv_aload_n hx hb dX9_keepWorks_133 rfl (lv_at hl 0 rfl) ?_
                refine va_get (D := g.1) (ci := 7) (v := .ref (a 9)) (C := RX9) (T := TX9) (N := 19) hx hb hts izRX9 hown hK hP 2 rfl rfl 17 (by decide) (hts _ k19) (fun _ h9 => h9) rfl dX9_keepWorks_134 ?_
                refine lv_iload hx hb dX9_keepWorks_137 (lv_at hl 4 rfl) ?_
                refine va_iald hx hb hK hP 12 0 rfl rfl (zinK (a := 0) (b := 5) i10.1 n17 (by decide)) dX9_keepWorks_139 ?_
                refine zg (fun x_78 => ?_)
                refine lv_iconst (v := 1) hx hb dX9_keepWorks_140 (by decide) ?_
                refine lv_icmp_ne (tgt := 166) hx hb dX9_keepWorks_141 (by decide) (fun cb9 => ?_) (fun cb9 => ?_)
                · skip
                  have c79 : ¬ x_78.toInt = 1 := zne cb9 rfl (by decide)
                  refine ziinc3 (n' := 1) (a' := 1) (b' := 6) (lv' := fun v9 => [(4, .int v9), (0, .ref o), (1, .ref go), (2, .int q_1), (3, .int x_3)]) hx hb dX9_keepWorks_166 hl (k := 4) rfl (by decide) (fun _ => rfl) (zaddK (i := x_4.toInt) (j := 1) rfl (by decide) i10.1 n17 (Int.le_refl _) (Int.le_refl _) (by decide)) (fun x_80 ls hx_80 hl => ?_)
                  refine lv_goto (tgt := 10) hx hb dX9_keepWorks_169 (by decide) ?_
                  have hl := lv_sub (l' := [(0, .ref o), (1, .ref go), (2, .int q_1), (3, .int x_3), (4, .int x_80)]) hl [1, 2, 3, 4, 0] rfl
                  have hP : va_P g.1 vwCl (List.flatten [bLog g go gr x_5 x_6 fr_7, bTown g o a pe wo tx x_8 jo tr dy sd f_9]) H := hP
                  have hD : va_D A (List.flatten [bLog g go gr x_5 x_6 fr_7, bTown g o a pe wo tx x_8 jo tr dy sd f_9]) := hD
                  exact ih10_14 x_3 x_80 x_5 x_6 fr_7 x_8 f_9 ⟨(Int.le_trans (by decide) hx_80.2.1), hx_80.2.2⟩ ⟨i11.1, i11.2⟩ ⟨i12.1, i12.2⟩ rf_9 H _ ls (zmK hx_80.1 (by decide) n17 (by decide) hk10_14)  hP hD hS (lv_sub hl [0, 1, 2, 3, 4] rfl)
                · skip
                  have c81 : x_78.toInt = 1 := zeq cb9 rfl (by decide)
                  have n82 : 1 ≤ x_78.toInt := Int.le_trans (Int.le_refl _) (Int.le_of_eq c81.symm)
                  have n83 : x_78.toInt ≤ 1 := Int.le_trans (Int.le_of_eq c81) (Int.le_refl _)
                  refine lv_aload_n hx hb dX9_keepWorks_144 rfl (lv_at hl 0 rfl) ?_
                  refine lv_sipush (v := 9999) hx hb dX9_keepWorks_145 (by decide) ?_
                  refine lv_aload_n hx hb dX9_keepWorks_148 rfl (lv_at hl 0 rfl) ?_
                  refine va_get (D := g.1) (ci := 7) (v := .int x_8) (C := RX9) (T := TX9) (N := 19) hx hb hts izRX9 hown hK hP 2 rfl rfl 3 (by decide) (hts _ k4) (fun _ h9 => h9) rfl dX9_keepWorks_149 ?_
                  refine lv_aload_n hx hb dX9_keepWorks_152 rfl (lv_at hl 0 rfl) ?_
                  refine va_get (D := g.1) (ci := 7) (v := .ref (a 8)) (C := RX9) (T := TX9) (N := 19) hx hb hts izRX9 hown hK hP 2 rfl rfl 16 (by decide) (hts _ k18) (fun _ h9 => h9) rfl dX9_keepWorks_153 ?_
                  refine lv_iload hx hb dX9_keepWorks_156 (lv_at hl 4 rfl) ?_
                  refine va_iald hx hb hK hP 11 0 rfl rfl (zinK (a := 0) (b := 5) i10.1 n17 (by decide)) dX9_keepWorks_158 ?_
                  refine zg (fun x_84 => ?_)
                  refine lv_iadd hx hb dX9_keepWorks_159 ?_
                  refine zg (fun x_85 => ?_)
                  refine va_mmin hx hb (by rw [hml]; exact hl.1.symm) hown (hts _ k40) (hts _ k41) (hts _ k42) (hts _ k43) (Nat.le_of_ble_eq_true rfl) (Nat.le_of_ble_eq_true rfl) (Nat.le_of_ble_eq_true rfl) (Nat.le_of_ble_eq_true rfl) dX9_keepWorks_160 ?_
                  refine zgmn (i := 9999) (j := x_85.toInt) (by decide) rfl (fun x_86 hx_86 => ?_)
                  refine va_put (D := g.1) (ci := 7) (v := .int x_86) (ty := .int) (C := RX9) (T := TX9) (N := 19) hx hb hts izRX9 tyX9 tyX9_ok nmX9 hown hK hP hD hS 2 rfl rfl 3 (by decide) (hts _ k4) (fun _ h9 => h9) rfl (by decide +kernel) rfl rfl (Nat.le_of_ble_eq_true rfl) dX9_keepWorks_163 (fun H locs hP hD hS => ?_)
                  have hP : va_P g.1 vwCl (List.flatten [bLog g go gr x_5 x_6 fr_7, bTown g o a pe wo tx x_86 jo tr dy sd f_9]) H := hP
                  have hD : va_D A (List.flatten [bLog g go gr x_5 x_6 fr_7, bTown g o a pe wo tx x_86 jo tr dy sd f_9]) := hD
                  refine ziinc3 (n' := 1) (a' := 1) (b' := 6) (lv' := fun v9 => [(4, .int v9), (0, .ref o), (1, .ref go), (2, .int q_1), (3, .int x_3)]) hx hb dX9_keepWorks_166 hl (k := 4) rfl (by decide) (fun _ => rfl) (zaddK (i := x_4.toInt) (j := 1) rfl (by decide) i10.1 n17 (Int.le_refl _) (Int.le_refl _) (by decide)) (fun x_87 ls hx_87 hl => ?_)
                  refine lv_goto (tgt := 10) hx hb dX9_keepWorks_169 (by decide) ?_
                  have hl := lv_sub (l' := [(0, .ref o), (1, .ref go), (2, .int q_1), (3, .int x_3), (4, .int x_87)]) hl [1, 2, 3, 4, 0] rfl
                  have hP : va_P g.1 vwCl (List.flatten [bLog g go gr x_5 x_6 fr_7, bTown g o a pe wo tx x_86 jo tr dy sd f_9]) H := hP
                  have hD : va_D A (List.flatten [bLog g go gr x_5 x_6 fr_7, bTown g o a pe wo tx x_86 jo tr dy sd f_9]) := hD
                  exact ih10_14 x_3 x_87 x_5 x_6 fr_7 x_86 f_9 ⟨(Int.le_trans (by decide) hx_87.2.1), hx_87.2.2⟩ ⟨i11.1, i11.2⟩ ⟨i12.1, i12.2⟩ rf_9 H _ ls (zmK hx_87.1 (by decide) n17 (by decide) hk10_14)  hP hD hS (lv_sub hl [0, 1, 2, 3, 4] rfl)
              · skip
                have c88 : q_1.toInt < x_76.toInt := zlti (Int32.not_le.mp cb9) rfl rfl
                refine lv_aload_n hx hb dX9_keepWorks_111 rfl (lv_at hl 0 rfl) ?_
                refine va_get (D := g.1) (ci := 7) (v := .ref (a 9)) (C := RX9) (T := TX9) (N := 19) hx hb hts izRX9 hown hK hP 2 rfl rfl 17 (by decide) (hts _ k19) (fun _ h9 => h9) rfl dX9_keepWorks_112 ?_
                refine lv_iload hx hb dX9_keepWorks_115 (lv_at hl 4 rfl) ?_
                refine lv_iconst (v := 2) hx hb dX9_keepWorks_117 (by decide) ?_
                refine va_iast hx hb hK hP hD hS 12 0 rfl rfl (zinK (a := 0) (b := 5) i10.1 n17 (by decide)) dX9_keepWorks_118 (fun H locs hP hD hS => ?_)
                obtain ⟨f89, rf89, hP, hD⟩ : ∃ f89 : Nat → Nat → Int32, zZ4 f89 ∧ va_P g.1 vwCl (List.flatten [bLog g go gr x_5 x_6 fr_7, bTown g o a pe wo tx x_8 jo tr dy sd f89]) H ∧ va_D A (List.flatten [bLog g go gr x_5 x_6 fr_7, bTown g o a pe wo tx x_8 jo tr dy sd f89]) := ⟨zu f_9 9 (upd (f_9 9) x_4.toNatClampNeg 2), (zZ4_u rf_9 (by decide)), hP, hD⟩
                refine ziincG (lv' := fun v9 => [(3, .int v9), (0, .ref o), (1, .ref go), (2, .int q_1), (4, .int x_4)]) hx hb dX9_keepWorks_119 hl (k := 3) rfl (by decide) (fun _ => rfl) (fun x_90 ls hl => ?_)
                refine lv_aload_n hx hb dX9_keepWorks_122 rfl (lv_at hl 1 rfl) ?_
                refine lv_aload_n hx hb dX9_keepWorks_123 rfl (lv_at hl 2 rfl) ?_
                refine lv_iload hx hb dX9_keepWorks_124 (lv_at hl 4 rfl) ?_
                refine lv_iconst (v := 1) hx hb dX9_keepWorks_126 (by decide) ?_
                refine mcallV' (g := g) (q0 := 0) (ci := 7) (As := [.ref go, .int x_4, .int 1]) (rest := []) St hK hT hA hP hD hS hl.1 [1, 0] [] rfl rfl rfl (c_write l g o a pe wo tx x_8 jo tr dy sd f89 go gr x_5 x_6 fr_7 x_4 1 b_pe b_wo rf89 i11 i12) (cwV 3 hts (zgL (zl4 k125 k126 k127 k24) k124) rfl rfl rfl (by decide +kernel) ⟨Nat.le_of_ble_eq_true rfl, Nat.le_of_ble_eq_true rfl⟩) rfl rfl rfl rfl (Nat.le_of_ble_eq_true rfl) dX9_keepWorks_127 ⟨(Nat.le_of_ble_eq_true rfl), (Nat.le_of_ble_eq_true rfl)⟩ (fun u_ H locs hq94 hP hD hS => ?_)
                obtain ⟨gz2_91, gn2_92, fr2_93⟩ := u_
                replace hq94 : (0 ≤ gz2_91.toInt ∧ gz2_91.toInt ≤ 60) ∧ (0 ≤ gn2_92.toInt ∧ gn2_92.toInt ≤ 59) := hq94
                have hP : va_P g.1 vwCl (List.flatten [bTown g o a pe wo tx x_8 jo tr dy sd f89, bLog g go gr gz2_91 gn2_92 fr2_93]) H := hP
                have hD : va_D A (List.flatten [bTown g o a pe wo tx x_8 jo tr dy sd f89, bLog g go gr gz2_91 gn2_92 fr2_93]) := hD
                refine W.widen (k := 0) (n := 0) (Nat.le_of_ble_eq_true rfl) (Nat.le_of_ble_eq_true rfl) ?_
                refine W.eq (g2 := F0 m 130 ls []) rfl ?_
                obtain ⟨hq94_0, hq94_1⟩ := hq94
                refine lv_goto (tgt := 166) hx hb dX9_keepWorks_130 (by decide) ?_
                refine ziinc3 (n' := 1) (a' := 1) (b' := 6) (lv' := fun v9 => [(4, .int v9), (3, .int x_90), (0, .ref o), (1, .ref go), (2, .int q_1)]) hx hb dX9_keepWorks_166 hl (k := 4) rfl (by decide) (fun _ => rfl) (zaddK (i := x_4.toInt) (j := 1) rfl (by decide) i10.1 n17 (Int.le_refl _) (Int.le_refl _) (by decide)) (fun x_95 ls hx_95 hl => ?_)
                refine lv_goto (tgt := 10) hx hb dX9_keepWorks_169 (by decide) ?_
                have hl := lv_sub (l' := [(0, .ref o), (1, .ref go), (2, .int q_1), (3, .int x_90), (4, .int x_95)]) hl [2, 3, 4, 1, 0] rfl
                have hP : va_P g.1 vwCl (List.flatten [bTown g o a pe wo tx x_8 jo tr dy sd f89, bLog g go gr gz2_91 gn2_92 fr2_93]) H := hP
                have hD : va_D A (List.flatten [bTown g o a pe wo tx x_8 jo tr dy sd f89, bLog g go gr gz2_91 gn2_92 fr2_93]) := hD
                obtain ⟨hP, hD⟩ := zord (g := g) (Bs' := [bLog g go gr gz2_91 gn2_92 fr2_93, bTown g o a pe wo tx x_8 jo tr dy sd f89]) [1, 0] rfl rfl hP hD
                have hP : va_P g.1 vwCl (List.flatten [bLog g go gr gz2_91 gn2_92 fr2_93, bTown g o a pe wo tx x_8 jo tr dy sd f89]) H := hP
                have hD : va_D A (List.flatten [bLog g go gr gz2_91 gn2_92 fr2_93, bTown g o a pe wo tx x_8 jo tr dy sd f89]) := hD
                exact ih10_14 x_90 x_95 gz2_91 gn2_92 fr2_93 x_8 f89 ⟨(Int.le_trans (by decide) hx_95.2.1), hx_95.2.2⟩ ⟨hq94_0.1, hq94_0.2⟩ ⟨hq94_1.1, hq94_1.2⟩ rf89 H _ ls (zmK hx_95.1 (by decide) n17 (by decide) hk10_14)  hP hD hS (lv_sub hl [0, 1, 2, 3, 4] rfl)
          · skip
            have c96 : x_59.toInt ≤ q_1.toInt := zle (Int32.not_lt.mp cb9) rfl rfl
            refine lv_aload_n hx hb dX9_keepWorks_40 rfl (lv_at hl 0 rfl) ?_
            refine va_get (D := g.1) (ci := 7) (v := .int x_8) (C := RX9) (T := TX9) (N := 19) hx hb hts izRX9 hown hK hP 2 rfl rfl 3 (by decide) (hts _ k4) (fun _ h9 => h9) rfl dX9_keepWorks_41 ?_
            refine lv_aload_n hx hb dX9_keepWorks_44 rfl (lv_at hl 0 rfl) ?_
            refine va_get (D := g.1) (ci := 7) (v := .ref (a 6)) (C := RX9) (T := TX9) (N := 19) hx hb hts izRX9 hown hK hP 2 rfl rfl 14 (by decide) (hts _ k16) (fun _ h9 => h9) rfl dX9_keepWorks_45 ?_
            refine lv_iload hx hb dX9_keepWorks_48 (lv_at hl 4 rfl) ?_
            refine va_iald hx hb hK hP 9 0 rfl rfl (zinK (a := 0) (b := 5) i10.1 n17 (by decide)) dX9_keepWorks_50 ?_
            refine zg (fun x_97 => ?_)
            refine lv_icmp_lt (tgt := 89) hx hb dX9_keepWorks_51 (by decide) (fun cb9 => ?_) (fun cb9 => ?_)
            · skip
              have c98 : x_8.toInt < x_97.toInt := zlti cb9 rfl rfl
              refine lv_aload_n hx hb dX9_keepWorks_89 rfl (lv_at hl 0 rfl) ?_
              refine va_get (D := g.1) (ci := 7) (v := .ref (a 9)) (C := RX9) (T := TX9) (N := 19) hx hb hts izRX9 hown hK hP 2 rfl rfl 17 (by decide) (hts _ k19) (fun _ h9 => h9) rfl dX9_keepWorks_90 ?_
              refine lv_iload hx hb dX9_keepWorks_93 (lv_at hl 4 rfl) ?_
              refine va_iald hx hb hK hP 12 0 rfl rfl (zinK (a := 0) (b := 5) i10.1 n17 (by decide)) dX9_keepWorks_95 ?_
              refine zg (fun x_99 => ?_)
              refine lv_iconst (v := 1) hx hb dX9_keepWorks_96 (by decide) ?_
              refine lv_icmp_ne (tgt := 133) hx hb dX9_keepWorks_97 (by decide) (fun cb9 => ?_) (fun cb9 => ?_)
              · skip
                have c100 : ¬ x_99.toInt = 1 := zne cb9 rfl (by decide)
                refine lv_aload_n hx hb dX9_keepWorks_133 rfl (lv_at hl 0 rfl) ?_
                refine va_get (D := g.1) (ci := 7) (v := .ref (a 9)) (C := RX9) (T := TX9) (N := 19) hx hb hts izRX9 hown hK hP 2 rfl rfl 17 (by decide) (hts _ k19) (fun _ h9 => h9) rfl dX9_keepWorks_134 ?_
                refine lv_iload hx hb dX9_keepWorks_137 (lv_at hl 4 rfl) ?_
                refine va_iald hx hb hK hP 12 0 rfl rfl (zinK (a := 0) (b := 5) i10.1 n17 (by decide)) dX9_keepWorks_139 ?_
                refine zg (fun x_101 => ?_)
                refine lv_iconst (v := 1) hx hb dX9_keepWorks_140 (by decide) ?_
                refine lv_icmp_ne (tgt := 166) hx hb dX9_keepWorks_141 (by decide) (fun cb9 => ?_) (fun cb9 => ?_)
                · skip
                  have c102 : ¬ x_101.toInt = 1 := zne cb9 rfl (by decide)
                  refine ziinc3 (n' := 1) (a' := 1) (b' := 6) (lv' := fun v9 => [(4, .int v9), (0, .ref o), (1, .ref go), (2, .int q_1), (3, .int x_3)]) hx hb dX9_keepWorks_166 hl (k := 4) rfl (by decide) (fun _ => rfl) (zaddK (i := x_4.toInt) (j := 1) rfl (by decide) i10.1 n17 (Int.le_refl _) (Int.le_refl _) (by decide)) (fun x_103 ls hx_103 hl => ?_)
                  refine lv_goto (tgt := 10) hx hb dX9_keepWorks_169 (by decide) ?_
                  have hl := lv_sub (l' := [(0, .ref o), (1, .ref go), (2, .int q_1), (3, .int x_3), (4, .int x_103)]) hl [1, 2, 3, 4, 0] rfl
                  have hP : va_P g.1 vwCl (List.flatten [bLog g go gr x_5 x_6 fr_7, bTown g o a pe wo tx x_8 jo tr dy sd f_9]) H := hP
                  have hD : va_D A (List.flatten [bLog g go gr x_5 x_6 fr_7, bTown g o a pe wo tx x_8 jo tr dy sd f_9]) := hD
                  exact ih10_14 x_3 x_103 x_5 x_6 fr_7 x_8 f_9 ⟨(Int.le_trans (by decide) hx_103.2.1), hx_103.2.2⟩ ⟨i11.1, i11.2⟩ ⟨i12.1, i12.2⟩ rf_9 H _ ls (zmK hx_103.1 (by decide) n17 (by decide) hk10_14)  hP hD hS (lv_sub hl [0, 1, 2, 3, 4] rfl)
                · skip
                  have c104 : x_101.toInt = 1 := zeq cb9 rfl (by decide)
                  have n105 : 1 ≤ x_101.toInt := Int.le_trans (Int.le_refl _) (Int.le_of_eq c104.symm)
                  have n106 : x_101.toInt ≤ 1 := Int.le_trans (Int.le_of_eq c104) (Int.le_refl _)
                  refine lv_aload_n hx hb dX9_keepWorks_144 rfl (lv_at hl 0 rfl) ?_
                  refine lv_sipush (v := 9999) hx hb dX9_keepWorks_145 (by decide) ?_
                  refine lv_aload_n hx hb dX9_keepWorks_148 rfl (lv_at hl 0 rfl) ?_
                  refine va_get (D := g.1) (ci := 7) (v := .int x_8) (C := RX9) (T := TX9) (N := 19) hx hb hts izRX9 hown hK hP 2 rfl rfl 3 (by decide) (hts _ k4) (fun _ h9 => h9) rfl dX9_keepWorks_149 ?_
                  refine lv_aload_n hx hb dX9_keepWorks_152 rfl (lv_at hl 0 rfl) ?_
                  refine va_get (D := g.1) (ci := 7) (v := .ref (a 8)) (C := RX9) (T := TX9) (N := 19) hx hb hts izRX9 hown hK hP 2 rfl rfl 16 (by decide) (hts _ k18) (fun _ h9 => h9) rfl dX9_keepWorks_153 ?_
                  refine lv_iload hx hb dX9_keepWorks_156 (lv_at hl 4 rfl) ?_
                  refine va_iald hx hb hK hP 11 0 rfl rfl (zinK (a := 0) (b := 5) i10.1 n17 (by decide)) dX9_keepWorks_158 ?_
                  refine zg (fun x_107 => ?_)
                  refine lv_iadd hx hb dX9_keepWorks_159 ?_
                  refine zg (fun x_108 => ?_)
                  refine va_mmin hx hb (by rw [hml]; exact hl.1.symm) hown (hts _ k40) (hts _ k41) (hts _ k42) (hts _ k43) (Nat.le_of_ble_eq_true rfl) (Nat.le_of_ble_eq_true rfl) (Nat.le_of_ble_eq_true rfl) (Nat.le_of_ble_eq_true rfl) dX9_keepWorks_160 ?_
                  refine zgmn (i := 9999) (j := x_108.toInt) (by decide) rfl (fun x_109 hx_109 => ?_)
                  refine va_put (D := g.1) (ci := 7) (v := .int x_109) (ty := .int) (C := RX9) (T := TX9) (N := 19) hx hb hts izRX9 tyX9 tyX9_ok nmX9 hown hK hP hD hS 2 rfl rfl 3 (by decide) (hts _ k4) (fun _ h9 => h9) rfl (by decide +kernel) rfl rfl (Nat.le_of_ble_eq_true rfl) dX9_keepWorks_163 (fun H locs hP hD hS => ?_)
                  have hP : va_P g.1 vwCl (List.flatten [bLog g go gr x_5 x_6 fr_7, bTown g o a pe wo tx x_109 jo tr dy sd f_9]) H := hP
                  have hD : va_D A (List.flatten [bLog g go gr x_5 x_6 fr_7, bTown g o a pe wo tx x_109 jo tr dy sd f_9]) := hD
                  refine ziinc3 (n' := 1) (a' := 1) (b' := 6) (lv' := fun v9 => [(4, .int v9), (0, .ref o), (1, .ref go), (2, .int q_1), (3, .int x_3)]) hx hb dX9_keepWorks_166 hl (k := 4) rfl (by decide) (fun _ => rfl) (zaddK (i := x_4.toInt) (j := 1) rfl (by decide) i10.1 n17 (Int.le_refl _) (Int.le_refl _) (by decide)) (fun x_110 ls hx_110 hl => ?_)
                  refine lv_goto (tgt := 10) hx hb dX9_keepWorks_169 (by decide) ?_
                  have hl := lv_sub (l' := [(0, .ref o), (1, .ref go), (2, .int q_1), (3, .int x_3), (4, .int x_110)]) hl [1, 2, 3, 4, 0] rfl
                  have hP : va_P g.1 vwCl (List.flatten [bLog g go gr x_5 x_6 fr_7, bTown g o a pe wo tx x_109 jo tr dy sd f_9]) H := hP
                  have hD : va_D A (List.flatten [bLog g go gr x_5 x_6 fr_7, bTown g o a pe wo tx x_109 jo tr dy sd f_9]) := hD
                  exact ih10_14 x_3 x_110 x_5 x_6 fr_7 x_109 f_9 ⟨(Int.le_trans (by decide) hx_110.2.1), hx_110.2.2⟩ ⟨i11.1, i11.2⟩ ⟨i12.1, i12.2⟩ rf_9 H _ ls (zmK hx_110.1 (by decide) n17 (by decide) hk10_14)  hP hD hS (lv_sub hl [0, 1, 2, 3, 4] rfl)
              · skip
                have c111 : x_99.toInt = 1 := zeq cb9 rfl (by decide)
                have n112 : 1 ≤ x_99.toInt := Int.le_trans (Int.le_refl _) (Int.le_of_eq c111.symm)
                have n113 : x_99.toInt ≤ 1 := Int.le_trans (Int.le_of_eq c111) (Int.le_refl _)
                refine lv_iload_n hx hb dX9_keepWorks_100 rfl (lv_at hl 2 rfl) ?_
                refine lv_aload_n hx hb dX9_keepWorks_101 rfl (lv_at hl 0 rfl) ?_
                refine va_get (D := g.1) (ci := 7) (v := .ref (a 7)) (C := RX9) (T := TX9) (N := 19) hx hb hts izRX9 hown hK hP 2 rfl rfl 15 (by decide) (hts _ k17) (fun _ h9 => h9) rfl dX9_keepWorks_102 ?_
                refine lv_iload hx hb dX9_keepWorks_105 (lv_at hl 4 rfl) ?_
                refine va_iald hx hb hK hP 10 0 rfl rfl (zinK (a := 0) (b := 5) i10.1 n17 (by decide)) dX9_keepWorks_107 ?_
                refine zg (fun x_114 => ?_)
                refine lv_icmp_ge (tgt := 133) hx hb dX9_keepWorks_108 (by decide) (fun cb9 => ?_) (fun cb9 => ?_)
                · skip
                  have c115 : x_114.toInt ≤ q_1.toInt := zle cb9 rfl rfl
                  refine lv_aload_n hx hb dX9_keepWorks_133 rfl (lv_at hl 0 rfl) ?_
                  refine va_get (D := g.1) (ci := 7) (v := .ref (a 9)) (C := RX9) (T := TX9) (N := 19) hx hb hts izRX9 hown hK hP 2 rfl rfl 17 (by decide) (hts _ k19) (fun _ h9 => h9) rfl dX9_keepWorks_134 ?_
                  refine lv_iload hx hb dX9_keepWorks_137 (lv_at hl 4 rfl) ?_
                  refine va_iald hx hb hK hP 12 0 rfl rfl (zinK (a := 0) (b := 5) i10.1 n17 (by decide)) dX9_keepWorks_139 ?_
                  refine zg (fun x_116 => ?_)
                  refine lv_iconst (v := 1) hx hb dX9_keepWorks_140 (by decide) ?_
                  refine lv_icmp_ne (tgt := 166) hx hb dX9_keepWorks_141 (by decide) (fun cb9 => ?_) (fun cb9 => ?_)
                  · skip
                    have c117 : ¬ x_116.toInt = 1 := zne cb9 rfl (by decide)
                    refine ziinc3 (n' := 1) (a' := 1) (b' := 6) (lv' := fun v9 => [(4, .int v9), (0, .ref o), (1, .ref go), (2, .int q_1), (3, .int x_3)]) hx hb dX9_keepWorks_166 hl (k := 4) rfl (by decide) (fun _ => rfl) (zaddK (i := x_4.toInt) (j := 1) rfl (by decide) i10.1 n17 (Int.le_refl _) (Int.le_refl _) (by decide)) (fun x_118 ls hx_118 hl => ?_)
                    refine lv_goto (tgt := 10) hx hb dX9_keepWorks_169 (by decide) ?_
                    have hl := lv_sub (l' := [(0, .ref o), (1, .ref go), (2, .int q_1), (3, .int x_3), (4, .int x_118)]) hl [1, 2, 3, 4, 0] rfl
                    have hP : va_P g.1 vwCl (List.flatten [bLog g go gr x_5 x_6 fr_7, bTown g o a pe wo tx x_8 jo tr dy sd f_9]) H := hP
                    have hD : va_D A (List.flatten [bLog g go gr x_5 x_6 fr_7, bTown g o a pe wo tx x_8 jo tr dy sd f_9]) := hD
                    exact ih10_14 x_3 x_118 x_5 x_6 fr_7 x_8 f_9 ⟨(Int.le_trans (by decide) hx_118.2.1), hx_118.2.2⟩ ⟨i11.1, i11.2⟩ ⟨i12.1, i12.2⟩ rf_9 H _ ls (zmK hx_118.1 (by decide) n17 (by decide) hk10_14)  hP hD hS (lv_sub hl [0, 1, 2, 3, 4] rfl)
                  · skip
                    have c119 : x_116.toInt = 1 := zeq cb9 rfl (by decide)
                    have n120 : 1 ≤ x_116.toInt := Int.le_trans (Int.le_refl _) (Int.le_of_eq c119.symm)
                    have n121 : x_116.toInt ≤ 1 := Int.le_trans (Int.le_of_eq c119) (Int.le_refl _)
                    refine lv_aload_n hx hb dX9_keepWorks_144 rfl (lv_at hl 0 rfl) ?_
                    refine lv_sipush (v := 9999) hx hb dX9_keepWorks_145 (by decide) ?_
                    refine lv_aload_n hx hb dX9_keepWorks_148 rfl (lv_at hl 0 rfl) ?_
                    refine va_get (D := g.1) (ci := 7) (v := .int x_8) (C := RX9) (T := TX9) (N := 19) hx hb hts izRX9 hown hK hP 2 rfl rfl 3 (by decide) (hts _ k4) (fun _ h9 => h9) rfl dX9_keepWorks_149 ?_
                    refine lv_aload_n hx hb dX9_keepWorks_152 rfl (lv_at hl 0 rfl) ?_
                    refine va_get (D := g.1) (ci := 7) (v := .ref (a 8)) (C := RX9) (T := TX9) (N := 19) hx hb hts izRX9 hown hK hP 2 rfl rfl 16 (by decide) (hts _ k18) (fun _ h9 => h9) rfl dX9_keepWorks_153 ?_
                    refine lv_iload hx hb dX9_keepWorks_156 (lv_at hl 4 rfl) ?_
                    refine va_iald hx hb hK hP 11 0 rfl rfl (zinK (a := 0) (b := 5) i10.1 n17 (by decide)) dX9_keepWorks_158 ?_
                    refine zg (fun x_122 => ?_)
                    refine lv_iadd hx hb dX9_keepWorks_159 ?_
                    refine zg (fun x_123 => ?_)
                    refine va_mmin hx hb (by rw [hml]; exact hl.1.symm) hown (hts _ k40) (hts _ k41) (hts _ k42) (hts _ k43) (Nat.le_of_ble_eq_true rfl) (Nat.le_of_ble_eq_true rfl) (Nat.le_of_ble_eq_true rfl) (Nat.le_of_ble_eq_true rfl) dX9_keepWorks_160 ?_
                    refine zgmn (i := 9999) (j := x_123.toInt) (by decide) rfl (fun x_124 hx_124 => ?_)
                    refine va_put (D := g.1) (ci := 7) (v := .int x_124) (ty := .int) (C := RX9) (T := TX9) (N := 19) hx hb hts izRX9 tyX9 tyX9_ok nmX9 hown hK hP hD hS 2 rfl rfl 3 (by decide) (hts _ k4) (fun _ h9 => h9) rfl (by decide +kernel) rfl rfl (Nat.le_of_ble_eq_true rfl) dX9_keepWorks_163 (fun H locs hP hD hS => ?_)
                    have hP : va_P g.1 vwCl (List.flatten [bLog g go gr x_5 x_6 fr_7, bTown g o a pe wo tx x_124 jo tr dy sd f_9]) H := hP
                    have hD : va_D A (List.flatten [bLog g go gr x_5 x_6 fr_7, bTown g o a pe wo tx x_124 jo tr dy sd f_9]) := hD
                    refine ziinc3 (n' := 1) (a' := 1) (b' := 6) (lv' := fun v9 => [(4, .int v9), (0, .ref o), (1, .ref go), (2, .int q_1), (3, .int x_3)]) hx hb dX9_keepWorks_166 hl (k := 4) rfl (by decide) (fun _ => rfl) (zaddK (i := x_4.toInt) (j := 1) rfl (by decide) i10.1 n17 (Int.le_refl _) (Int.le_refl _) (by decide)) (fun x_125 ls hx_125 hl => ?_)
                    refine lv_goto (tgt := 10) hx hb dX9_keepWorks_169 (by decide) ?_
                    have hl := lv_sub (l' := [(0, .ref o), (1, .ref go), (2, .int q_1), (3, .int x_3), (4, .int x_125)]) hl [1, 2, 3, 4, 0] rfl
                    have hP : va_P g.1 vwCl (List.flatten [bLog g go gr x_5 x_6 fr_7, bTown g o a pe wo tx x_124 jo tr dy sd f_9]) H := hP
                    have hD : va_D A (List.flatten [bLog g go gr x_5 x_6 fr_7, bTown g o a pe wo tx x_124 jo tr dy sd f_9]) := hD
                    exact ih10_14 x_3 x_125 x_5 x_6 fr_7 x_124 f_9 ⟨(Int.le_trans (by decide) hx_125.2.1), hx_125.2.2⟩ ⟨i11.1, i11.2⟩ ⟨i12.1, i12.2⟩ rf_9 H _ ls (zmK hx_125.1 (by decide) n17 (by decide) hk10_14)  hP hD hS (lv_sub hl [0, 1, 2, 3, 4] rfl)
                · skip
                  have c126 : q_1.toInt < x_114.toInt := zlti (Int32.not_le.mp cb9) rfl rfl
                  refine lv_aload_n hx hb dX9_keepWorks_111 rfl (lv_at hl 0 rfl) ?_
                  refine va_get (D := g.1) (ci := 7) (v := .ref (a 9)) (C := RX9) (T := TX9) (N := 19) hx hb hts izRX9 hown hK hP 2 rfl rfl 17 (by decide) (hts _ k19) (fun _ h9 => h9) rfl dX9_keepWorks_112 ?_
                  refine lv_iload hx hb dX9_keepWorks_115 (lv_at hl 4 rfl) ?_
                  refine lv_iconst (v := 2) hx hb dX9_keepWorks_117 (by decide) ?_
                  refine va_iast hx hb hK hP hD hS 12 0 rfl rfl (zinK (a := 0) (b := 5) i10.1 n17 (by decide)) dX9_keepWorks_118 (fun H locs hP hD hS => ?_)
                  obtain ⟨f127, rf127, hP, hD⟩ : ∃ f127 : Nat → Nat → Int32, zZ4 f127 ∧ va_P g.1 vwCl (List.flatten [bLog g go gr x_5 x_6 fr_7, bTown g o a pe wo tx x_8 jo tr dy sd f127]) H ∧ va_D A (List.flatten [bLog g go gr x_5 x_6 fr_7, bTown g o a pe wo tx x_8 jo tr dy sd f127]) := ⟨zu f_9 9 (upd (f_9 9) x_4.toNatClampNeg 2), (zZ4_u rf_9 (by decide)), hP, hD⟩
                  refine ziincG (lv' := fun v9 => [(3, .int v9), (0, .ref o), (1, .ref go), (2, .int q_1), (4, .int x_4)]) hx hb dX9_keepWorks_119 hl (k := 3) rfl (by decide) (fun _ => rfl) (fun x_128 ls hl => ?_)
                  refine lv_aload_n hx hb dX9_keepWorks_122 rfl (lv_at hl 1 rfl) ?_
                  refine lv_aload_n hx hb dX9_keepWorks_123 rfl (lv_at hl 2 rfl) ?_
                  refine lv_iload hx hb dX9_keepWorks_124 (lv_at hl 4 rfl) ?_
                  refine lv_iconst (v := 1) hx hb dX9_keepWorks_126 (by decide) ?_
                  refine mcallV' (g := g) (q0 := 0) (ci := 7) (As := [.ref go, .int x_4, .int 1]) (rest := []) St hK hT hA hP hD hS hl.1 [1, 0] [] rfl rfl rfl (c_write l g o a pe wo tx x_8 jo tr dy sd f127 go gr x_5 x_6 fr_7 x_4 1 b_pe b_wo rf127 i11 i12) (cwV 3 hts (zgL (zl4 k125 k126 k127 k24) k124) rfl rfl rfl (by decide +kernel) ⟨Nat.le_of_ble_eq_true rfl, Nat.le_of_ble_eq_true rfl⟩) rfl rfl rfl rfl (Nat.le_of_ble_eq_true rfl) dX9_keepWorks_127 ⟨(Nat.le_of_ble_eq_true rfl), (Nat.le_of_ble_eq_true rfl)⟩ (fun u_ H locs hq132 hP hD hS => ?_)
                  obtain ⟨gz2_129, gn2_130, fr2_131⟩ := u_
                  replace hq132 : (0 ≤ gz2_129.toInt ∧ gz2_129.toInt ≤ 60) ∧ (0 ≤ gn2_130.toInt ∧ gn2_130.toInt ≤ 59) := hq132
                  have hP : va_P g.1 vwCl (List.flatten [bTown g o a pe wo tx x_8 jo tr dy sd f127, bLog g go gr gz2_129 gn2_130 fr2_131]) H := hP
                  have hD : va_D A (List.flatten [bTown g o a pe wo tx x_8 jo tr dy sd f127, bLog g go gr gz2_129 gn2_130 fr2_131]) := hD
                  refine W.widen (k := 0) (n := 0) (Nat.le_of_ble_eq_true rfl) (Nat.le_of_ble_eq_true rfl) ?_
                  refine W.eq (g2 := F0 m 130 ls []) rfl ?_
                  obtain ⟨hq132_0, hq132_1⟩ := hq132
                  refine lv_goto (tgt := 166) hx hb dX9_keepWorks_130 (by decide) ?_
                  refine ziinc3 (n' := 1) (a' := 1) (b' := 6) (lv' := fun v9 => [(4, .int v9), (3, .int x_128), (0, .ref o), (1, .ref go), (2, .int q_1)]) hx hb dX9_keepWorks_166 hl (k := 4) rfl (by decide) (fun _ => rfl) (zaddK (i := x_4.toInt) (j := 1) rfl (by decide) i10.1 n17 (Int.le_refl _) (Int.le_refl _) (by decide)) (fun x_133 ls hx_133 hl => ?_)
                  refine lv_goto (tgt := 10) hx hb dX9_keepWorks_169 (by decide) ?_
                  have hl := lv_sub (l' := [(0, .ref o), (1, .ref go), (2, .int q_1), (3, .int x_128), (4, .int x_133)]) hl [2, 3, 4, 1, 0] rfl
                  have hP : va_P g.1 vwCl (List.flatten [bTown g o a pe wo tx x_8 jo tr dy sd f127, bLog g go gr gz2_129 gn2_130 fr2_131]) H := hP
                  have hD : va_D A (List.flatten [bTown g o a pe wo tx x_8 jo tr dy sd f127, bLog g go gr gz2_129 gn2_130 fr2_131]) := hD
                  obtain ⟨hP, hD⟩ := zord (g := g) (Bs' := [bLog g go gr gz2_129 gn2_130 fr2_131, bTown g o a pe wo tx x_8 jo tr dy sd f127]) [1, 0] rfl rfl hP hD
                  have hP : va_P g.1 vwCl (List.flatten [bLog g go gr gz2_129 gn2_130 fr2_131, bTown g o a pe wo tx x_8 jo tr dy sd f127]) H := hP
                  have hD : va_D A (List.flatten [bLog g go gr gz2_129 gn2_130 fr2_131, bTown g o a pe wo tx x_8 jo tr dy sd f127]) := hD
                  exact ih10_14 x_128 x_133 gz2_129 gn2_130 fr2_131 x_8 f127 ⟨(Int.le_trans (by decide) hx_133.2.1), hx_133.2.2⟩ ⟨hq132_0.1, hq132_0.2⟩ ⟨hq132_1.1, hq132_1.2⟩ rf127 H _ ls (zmK hx_133.1 (by decide) n17 (by decide) hk10_14)  hP hD hS (lv_sub hl [0, 1, 2, 3, 4] rfl)
            · skip
              have c134 : x_97.toInt ≤ x_8.toInt := zle (Int32.not_lt.mp cb9) rfl rfl
              refine lv_aload_n hx hb dX9_keepWorks_54 rfl (lv_at hl 0 rfl) ?_
              refine va_get (D := g.1) (ci := 7) (v := .ref (a 9)) (C := RX9) (T := TX9) (N := 19) hx hb hts izRX9 hown hK hP 2 rfl rfl 17 (by decide) (hts _ k19) (fun _ h9 => h9) rfl dX9_keepWorks_55 ?_
              refine lv_iload hx hb dX9_keepWorks_58 (lv_at hl 4 rfl) ?_
              refine lv_iconst (v := 1) hx hb dX9_keepWorks_60 (by decide) ?_
              refine va_iast hx hb hK hP hD hS 12 0 rfl rfl (zinK (a := 0) (b := 5) i10.1 n17 (by decide)) dX9_keepWorks_61 (fun H locs hP hD hS => ?_)
              obtain ⟨f135, rf135, hP, hD⟩ : ∃ f135 : Nat → Nat → Int32, zZ4 f135 ∧ va_P g.1 vwCl (List.flatten [bLog g go gr x_5 x_6 fr_7, bTown g o a pe wo tx x_8 jo tr dy sd f135]) H ∧ va_D A (List.flatten [bLog g go gr x_5 x_6 fr_7, bTown g o a pe wo tx x_8 jo tr dy sd f135]) := ⟨zu f_9 9 (upd (f_9 9) x_4.toNatClampNeg 1), (zZ4_u rf_9 (by decide)), hP, hD⟩
              refine lv_aload_n hx hb dX9_keepWorks_62 rfl (lv_at hl 0 rfl) ?_
              refine lv_dup hx hb dX9_keepWorks_63 rfl ?_
              refine va_get (D := g.1) (ci := 7) (v := .int x_8) (C := RX9) (T := TX9) (N := 19) hx hb hts izRX9 hown hK hP 2 rfl rfl 3 (by decide) (hts _ k4) (fun _ h9 => h9) rfl dX9_keepWorks_64 ?_
              refine lv_aload_n hx hb dX9_keepWorks_67 rfl (lv_at hl 0 rfl) ?_
              refine va_get (D := g.1) (ci := 7) (v := .ref (a 6)) (C := RX9) (T := TX9) (N := 19) hx hb hts izRX9 hown hK hP 2 rfl rfl 14 (by decide) (hts _ k16) (fun _ h9 => h9) rfl dX9_keepWorks_68 ?_
              refine lv_iload hx hb dX9_keepWorks_71 (lv_at hl 4 rfl) ?_
              refine va_iald hx hb hK hP 9 0 rfl rfl (zinK (a := 0) (b := 5) i10.1 n17 (by decide)) dX9_keepWorks_73 ?_
              refine zg (fun x_136 => ?_)
              refine lv_isub hx hb dX9_keepWorks_74 ?_
              refine zg (fun x_137 => ?_)
              refine va_put (D := g.1) (ci := 7) (v := .int x_137) (ty := .int) (C := RX9) (T := TX9) (N := 19) hx hb hts izRX9 tyX9 tyX9_ok nmX9 hown hK hP hD hS 2 rfl rfl 3 (by decide) (hts _ k4) (fun _ h9 => h9) rfl (by decide +kernel) rfl rfl (Nat.le_of_ble_eq_true rfl) dX9_keepWorks_75 (fun H locs hP hD hS => ?_)
              have hP : va_P g.1 vwCl (List.flatten [bLog g go gr x_5 x_6 fr_7, bTown g o a pe wo tx x_137 jo tr dy sd f135]) H := hP
              have hD : va_D A (List.flatten [bLog g go gr x_5 x_6 fr_7, bTown g o a pe wo tx x_137 jo tr dy sd f135]) := hD
              refine lv_aload_n hx hb dX9_keepWorks_78 rfl (lv_at hl 0 rfl) ?_
              refine lv_aload_n hx hb dX9_keepWorks_79 rfl (lv_at hl 1 rfl) ?_
              refine lv_iload hx hb dX9_keepWorks_80 (lv_at hl 4 rfl) ?_
              refine lv_iconst (v := 0) hx hb dX9_keepWorks_82 (by decide) ?_
              refine mcallV' (g := g) (q0 := 0) (ci := 7) (As := [.ref go, .int x_4, .int 0]) (rest := []) St hK hT hA hP hD hS hl.1 [1, 0] [] rfl rfl rfl (c_write l g o a pe wo tx x_137 jo tr dy sd f135 go gr x_5 x_6 fr_7 x_4 0 b_pe b_wo rf135 i11 i12) (cwV 3 hts (zgL (zl4 k125 k126 k127 k24) k124) rfl rfl rfl (by decide +kernel) ⟨Nat.le_of_ble_eq_true rfl, Nat.le_of_ble_eq_true rfl⟩) rfl rfl rfl rfl (Nat.le_of_ble_eq_true rfl) dX9_keepWorks_83 ⟨(Nat.le_of_ble_eq_true rfl), (Nat.le_of_ble_eq_true rfl)⟩ (fun u_ H locs hq141 hP hD hS => ?_)
              obtain ⟨gz2_138, gn2_139, fr2_140⟩ := u_
              replace hq141 : (0 ≤ gz2_138.toInt ∧ gz2_138.toInt ≤ 60) ∧ (0 ≤ gn2_139.toInt ∧ gn2_139.toInt ≤ 59) := hq141
              have hP : va_P g.1 vwCl (List.flatten [bTown g o a pe wo tx x_137 jo tr dy sd f135, bLog g go gr gz2_138 gn2_139 fr2_140]) H := hP
              have hD : va_D A (List.flatten [bTown g o a pe wo tx x_137 jo tr dy sd f135, bLog g go gr gz2_138 gn2_139 fr2_140]) := hD
              refine W.widen (k := 0) (n := 0) (Nat.le_of_ble_eq_true rfl) (Nat.le_of_ble_eq_true rfl) ?_
              refine W.eq (g2 := F0 m 86 ls []) rfl ?_
              obtain ⟨hq141_0, hq141_1⟩ := hq141
              refine lv_goto (tgt := 166) hx hb dX9_keepWorks_86 (by decide) ?_
              refine ziinc3 (n' := 1) (a' := 1) (b' := 6) (lv' := fun v9 => [(4, .int v9), (0, .ref o), (1, .ref go), (2, .int q_1), (3, .int x_3)]) hx hb dX9_keepWorks_166 hl (k := 4) rfl (by decide) (fun _ => rfl) (zaddK (i := x_4.toInt) (j := 1) rfl (by decide) i10.1 n17 (Int.le_refl _) (Int.le_refl _) (by decide)) (fun x_142 ls hx_142 hl => ?_)
              refine lv_goto (tgt := 10) hx hb dX9_keepWorks_169 (by decide) ?_
              have hl := lv_sub (l' := [(0, .ref o), (1, .ref go), (2, .int q_1), (3, .int x_3), (4, .int x_142)]) hl [1, 2, 3, 4, 0] rfl
              have hP : va_P g.1 vwCl (List.flatten [bTown g o a pe wo tx x_137 jo tr dy sd f135, bLog g go gr gz2_138 gn2_139 fr2_140]) H := hP
              have hD : va_D A (List.flatten [bTown g o a pe wo tx x_137 jo tr dy sd f135, bLog g go gr gz2_138 gn2_139 fr2_140]) := hD
              obtain ⟨hP, hD⟩ := zord (g := g) (Bs' := [bLog g go gr gz2_138 gn2_139 fr2_140, bTown g o a pe wo tx x_137 jo tr dy sd f135]) [1, 0] rfl rfl hP hD
              have hP : va_P g.1 vwCl (List.flatten [bLog g go gr gz2_138 gn2_139 fr2_140, bTown g o a pe wo tx x_137 jo tr dy sd f135]) H := hP
              have hD : va_D A (List.flatten [bLog g go gr gz2_138 gn2_139 fr2_140, bTown g o a pe wo tx x_137 jo tr dy sd f135]) := hD
              exact ih10_14 x_3 x_142 gz2_138 gn2_139 fr2_140 x_137 f135 ⟨(Int.le_trans (by decide) hx_142.2.1), hx_142.2.2⟩ ⟨hq141_0.1, hq141_0.2⟩ ⟨hq141_1.1, hq141_1.2⟩ rf135 H _ ls (zmK hx_142.1 (by decide) n17 (by decide) hk10_14)  hP hD hS (lv_sub hl [0, 1, 2, 3, 4] rfl)
  have hP : va_P g.1 vwCl (List.flatten [bLog g go gr gz gn fr, bTown g o a pe wo tx ch jo tr dy sd f]) H := hP
  have hD : va_D A (List.flatten [bLog g go gr gz gn fr, bTown g o a pe wo tx ch jo tr dy sd f]) := hD
  exact LP10_13 _ 0 0 gz gn fr ch f (by decide) ⟨b_gz.1, b_gz.2⟩ ⟨b_gn.1, b_gn.2⟩ rf H _ ls (Nat.lt_succ_self _)  hP hD hS (lv_sub hl [0, 1, 2, 3, 4] rfl)
set_option maxRecDepth 100000 in
set_option maxHeartbeats 4000000 in
theorem c_comeBack (l : Launch) (g : zG) (o : Nat) (a : Nat → Nat) (pe : Int32) (wo : Int32) (tx : Int32) (ch : Int32) (jo : Int32) (tr : Int32) (dy : Int32) (sd : Int32) (f : Nat → Nat → Int32) (go : Nat) (gr : Nat) (gz : Int32) (gn : Int32) (fr : Nat → Int32) (tl : Int32) (b_pe : 0 ≤ pe.toInt ∧ pe.toInt ≤ 8) (b_wo : 0 ≤ wo.toInt ∧ wo.toInt ≤ 6) (rf : zZ4 f) (b_gz : 0 ≤ gz.toInt ∧ gz.toInt ≤ 60) (b_gn : 0 ≤ gn.toInt ∧ gn.toInt ≤ 59) : zM' g l yX9_comeBack (Cond.code yX9_comeBack cX9_comeBack 5 none :: zB) ({ frames := 4, cells := 0, slots := 0, locals := 80 } : Room) [.ref o, .int tl, .ref go] [bTown g o a pe wo tx ch jo tr dy sd f, bLog g go gr gz gn fr] (fun u : Int32 × (Nat → Nat → Int32) × Int32 × Int32 × (Nat → Int32) => (fun (sd2 : Int32) (f2 : Nat → Nat → Int32) (gz2 : Int32) (gn2 : Int32) (fr2 : Nat → Int32) => none) (u.1) (u.2.1) (u.2.2.1) (u.2.2.2.1) (u.2.2.2.2)) (fun u : Int32 × (Nat → Nat → Int32) × Int32 × Int32 × (Nat → Int32) => (fun (sd2 : Int32) (f2 : Nat → Nat → Int32) (gz2 : Int32) (gn2 : Int32) (fr2 : Nat → Int32) => (zZ4 f2) ∧ (0 ≤ gz2.toInt ∧ gz2.toInt ≤ 60) ∧ (0 ≤ gn2.toInt ∧ gn2.toInt ≤ 59)) (u.1) (u.2.1) (u.2.2.1) (u.2.2.2.1) (u.2.2.2.2)) (fun u : Int32 × (Nat → Nat → Int32) × Int32 × Int32 × (Nat → Int32) => (fun (sd2 : Int32) (f2 : Nat → Nat → Int32) (gz2 : Int32) (gn2 : Int32) (fr2 : Nat → Int32) => [bTown g o a pe wo tx ch jo tr dy sd2 f2, bLog g go gr gz2 gn2 fr2]) (u.1) (u.2.1) (u.2.2.1) (u.2.2.2.1) (u.2.2.2.2)) := by
  refine zM'.of (cc := cX9_comeBack) (maxL := 5) (rt := none) (by decide) rfl (Nat.le_of_ble_eq_true rfl) ?_
  intro p e s m args below meth c A ls St hr hlocks hin hK hT hA hP hD hS hl
  obtain ⟨hx, hb, hml, hown, hts⟩ := id St
  have hl : lv_has ls 5 [(0, .ref o), (1, .int tl), (2, .ref go)] := hl
  refine lv_iconst (v := 0) hx hb dX9_comeBack_0 (by decide) ?_
  refine lv_istore_n (lv' := [(3, .int 0), (0, .ref o), (1, .int tl), (2, .ref go)]) hx hb dX9_comeBack_1 rfl hl (by decide) rfl (fun ls hl => ?_)
  have hl := lv_sub (l' := [(0, .ref o), (1, .int tl), (2, .ref go), (3, .int 0)]) hl [1, 2, 3, 0] rfl
  have LP2_10 : ∀ (kf : Nat) (x_1 : Int32) (x_2 : Int32) (f_3 : Nat → Nat → Int32) (x_4 : Int32) (x_5 : Int32) (fr_6 : Nat → Int32), (0 ≤ x_1.toInt ∧ x_1.toInt ≤ 8) → (zZ4 f_3) → (0 ≤ x_4.toInt ∧ x_4.toInt ≤ 60) → (0 ≤ x_5.toInt ∧ x_5.toInt ≤ 59) → ∀ (H : Heap) (locs : List Loc) (ls : Array Slot), ((9 - x_1.toInt).toNat) < kf → va_P g.1 vwCl (List.flatten [bTown g o a pe wo tx ch jo tr dy x_2 f_3, bLog g go gr x_4 x_5 fr_6]) H → va_D A (List.flatten [bTown g o a pe wo tx ch jo tr dy x_2 f_3, bLog g go gr x_4 x_5 fr_6]) → va_S A s.heap H locs → lv_has ls 5 [(0, .ref o), (1, .int tl), (2, .ref go), (3, .int x_1)] → W p l e ({ frames := 4, cells := 0, slots := 0, locals := 80 } : Room) s m args below meth c H locs (0) (0) (zF g (fun u : Int32 × (Nat → Nat → Int32) × Int32 × Int32 × (Nat → Int32) => (fun (sd2 : Int32) (f2 : Nat → Nat → Int32) (gz2 : Int32) (gn2 : Int32) (fr2 : Nat → Int32) => none) (u.1) (u.2.1) (u.2.2.1) (u.2.2.2.1) (u.2.2.2.2)) (fun u : Int32 × (Nat → Nat → Int32) × Int32 × Int32 × (Nat → Int32) => (fun (sd2 : Int32) (f2 : Nat → Nat → Int32) (gz2 : Int32) (gn2 : Int32) (fr2 : Nat → Int32) => (zZ4 f2) ∧ (0 ≤ gz2.toInt ∧ gz2.toInt ≤ 60) ∧ (0 ≤ gn2.toInt ∧ gn2.toInt ≤ 59)) (u.1) (u.2.1) (u.2.2.1) (u.2.2.2.1) (u.2.2.2.2)) (fun u : Int32 × (Nat → Nat → Int32) × Int32 × Int32 × (Nat → Int32) => (fun (sd2 : Int32) (f2 : Nat → Nat → Int32) (gz2 : Int32) (gn2 : Int32) (fr2 : Nat → Int32) => [bTown g o a pe wo tx ch jo tr dy sd2 f2, bLog g go gr gz2 gn2 fr2]) (u.1) (u.2.1) (u.2.2.1) (u.2.2.2.1) (u.2.2.2.2)) ({ frames := 4, cells := 0, slots := 0, locals := 80 } : Room) below args s A) (F0 m 2 ls []) := by
    intro kf
    induction kf with
    | zero => intro x_1 x_2 f_3 x_4 x_5 fr_6 i7 rf_3 i8 i9 H locs ls hk; exact absurd hk (Nat.not_lt_zero _)
    | succ kf ih2_11 =>
      intro x_1 x_2 f_3 x_4 x_5 fr_6 i7 rf_3 i8 i9 H locs ls hk2_11 hP hD hS hl
      refine lv_iload_n hx hb dX9_comeBack_2 rfl (lv_at hl 3 rfl) ?_
      refine lv_aload_n hx hb dX9_comeBack_3 rfl (lv_at hl 0 rfl) ?_
      refine va_get (D := g.1) (ci := 7) (v := .int pe) (C := RX9) (T := TX9) (N := 19) hx hb hts izRX9 hown hK hP 0 rfl rfl 0 (by decide) (hts _ k31) (fun _ h9 => h9) rfl dX9_comeBack_4 ?_
      refine lv_icmp_ge (tgt := 92) hx hb dX9_comeBack_7 (by decide) (fun cb9 => ?_) (fun cb9 => ?_)
      · skip
        have c12 : pe.toInt ≤ x_1.toInt := zle cb9 rfl rfl
        have hP : va_P g.1 vwCl (List.flatten [bTown g o a pe wo tx ch jo tr dy x_2 f_3, bLog g go gr x_4 x_5 fr_6]) H := hP
        have hD : va_D A (List.flatten [bTown g o a pe wo tx ch jo tr dy x_2 f_3, bLog g go gr x_4 x_5 fr_6]) := hD
        exact mret_v hx hb hr hlocks hS (Nat.le_of_ble_eq_true rfl) (Nat.le_of_ble_eq_true rfl) dX9_comeBack_92 (x_2, f_3, x_4, x_5, fr_6) rfl (show (zZ4 f_3) ∧ (0 ≤ x_4.toInt ∧ x_4.toInt ≤ 60) ∧ (0 ≤ x_5.toInt ∧ x_5.toInt ≤ 59) from ⟨rf_3, i8, i9⟩) hP hD
      · skip
        have c13 : x_1.toInt < pe.toInt := zlti (Int32.not_le.mp cb9) rfl rfl
        have n14 : x_1.toInt ≤ 7 := zL1 (b := 8) c13 b_pe.2 (by decide)
        have n15 : 1 ≤ pe.toInt := zL2 (a := 0) c13 i7.1 (by decide)
        refine lv_aload_n hx hb dX9_comeBack_10 rfl (lv_at hl 0 rfl) ?_
        refine lv_iload_n hx hb dX9_comeBack_11 rfl (lv_at hl 3 rfl) ?_
        refine mcallV' (g := g) (q0 := 0) (ci := 7) (As := [.int x_1]) (rest := []) St hK hT hA hP hD hS hl.1 [0] [1] rfl rfl rfl (c_isHere l g o a pe wo tx ch jo tr dy x_2 f_3 x_1 (⟨i7.1, n14⟩)) (cwV 1 hts (zgL (zl4 k53 k54 k55 k24) k51) rfl rfl rfl (by decide +kernel) ⟨Nat.le_of_ble_eq_true rfl, Nat.le_of_ble_eq_true rfl⟩) rfl rfl rfl rfl (Nat.le_of_ble_eq_true rfl) dX9_comeBack_12 ⟨(Nat.le_of_ble_eq_true rfl), (Nat.le_of_ble_eq_true rfl)⟩ (fun q_16 H locs hq17 hP hD hS => ?_)
        replace hq17 : (q_16 = 0 ∨ q_16 = 1) := hq17
        have hP : va_P g.1 vwCl (List.flatten [bLog g go gr x_4 x_5 fr_6, bTown g o a pe wo tx ch jo tr dy x_2 f_3]) H := hP
        have hD : va_D A (List.flatten [bLog g go gr x_4 x_5 fr_6, bTown g o a pe wo tx ch jo tr dy x_2 f_3]) := hD
        refine W.widen (k := 0) (n := 0) (Nat.le_of_ble_eq_true rfl) (Nat.le_of_ble_eq_true rfl) ?_
        refine W.eq (g2 := F0 m 15 ls [.int q_16]) rfl ?_
        rcases hq17 with rfl | rfl
        · skip
          refine lv_if_ne (tgt := 86) hx hb dX9_comeBack_15 (by decide) (fun c18 => absurd (by decide) c18) (fun _ => ?_)
          refine lv_aload_n hx hb dX9_comeBack_18 rfl (lv_at hl 0 rfl) ?_
          refine va_get (D := g.1) (ci := 7) (v := .ref (a 3)) (C := RX9) (T := TX9) (N := 19) hx hb hts izRX9 hown hK hP 2 rfl rfl 11 (by decide) (hts _ k12) (fun _ h9 => h9) rfl dX9_comeBack_19 ?_
          refine lv_iload_n hx hb dX9_comeBack_22 rfl (lv_at hl 3 rfl) ?_
          refine va_iald hx hb hK hP 6 0 rfl rfl (zinK (a := 0) (b := 7) i7.1 n14 (by decide)) dX9_comeBack_23 ?_
          refine zg (fun x_19 => ?_)
          refine lv_aload_n hx hb dX9_comeBack_24 rfl (lv_at hl 0 rfl) ?_
          refine va_get (D := g.1) (ci := 7) (v := .int dy) (C := RX9) (T := TX9) (N := 19) hx hb hts izRX9 hown hK hP 2 rfl rfl 6 (by decide) (hts _ k34) (fun _ h9 => h9) rfl dX9_comeBack_25 ?_
          refine lv_icmp_gt (tgt := 86) hx hb dX9_comeBack_28 (by decide) (fun cb9 => ?_) (fun cb9 => ?_)
          · skip
            have c20 : dy.toInt < x_19.toInt := zlti cb9 rfl rfl
            refine ziinc3 (n' := 1) (a' := 1) (b' := 8) (lv' := fun v9 => [(3, .int v9), (0, .ref o), (1, .int tl), (2, .ref go)]) hx hb dX9_comeBack_86 hl (k := 3) rfl (by decide) (fun _ => rfl) (zaddK (i := x_1.toInt) (j := 1) rfl (by decide) i7.1 n14 (Int.le_refl _) (Int.le_refl _) (by decide)) (fun x_21 ls hx_21 hl => ?_)
            refine lv_goto (tgt := 2) hx hb dX9_comeBack_89 (by decide) ?_
            have hl := lv_sub (l' := [(0, .ref o), (1, .int tl), (2, .ref go), (3, .int x_21)]) hl [1, 2, 3, 0] rfl
            have hP : va_P g.1 vwCl (List.flatten [bLog g go gr x_4 x_5 fr_6, bTown g o a pe wo tx ch jo tr dy x_2 f_3]) H := hP
            have hD : va_D A (List.flatten [bLog g go gr x_4 x_5 fr_6, bTown g o a pe wo tx ch jo tr dy x_2 f_3]) := hD
            obtain ⟨hP, hD⟩ := zord (g := g) (Bs' := [bTown g o a pe wo tx ch jo tr dy x_2 f_3, bLog g go gr x_4 x_5 fr_6]) [1, 0] rfl rfl hP hD
            have hP : va_P g.1 vwCl (List.flatten [bTown g o a pe wo tx ch jo tr dy x_2 f_3, bLog g go gr x_4 x_5 fr_6]) H := hP
            have hD : va_D A (List.flatten [bTown g o a pe wo tx ch jo tr dy x_2 f_3, bLog g go gr x_4 x_5 fr_6]) := hD
            exact ih2_11 x_21 x_2 f_3 x_4 x_5 fr_6 ⟨(Int.le_trans (by decide) hx_21.2.1), hx_21.2.2⟩ rf_3 ⟨i8.1, i8.2⟩ ⟨i9.1, i9.2⟩ H _ ls (zmK hx_21.1 (by decide) n14 (by decide) hk2_11)  hP hD hS (lv_sub hl [0, 1, 2, 3] rfl)
          · skip
            have c22 : x_19.toInt ≤ dy.toInt := zle (Int32.not_lt.mp cb9) rfl rfl
            refine lv_aload_n hx hb dX9_comeBack_31 rfl (lv_at hl 0 rfl) ?_
            refine va_get (D := g.1) (ci := 7) (v := .ref (a 3)) (C := RX9) (T := TX9) (N := 19) hx hb hts izRX9 hown hK hP 2 rfl rfl 11 (by decide) (hts _ k12) (fun _ h9 => h9) rfl dX9_comeBack_32 ?_
            refine lv_iload_n hx hb dX9_comeBack_35 rfl (lv_at hl 3 rfl) ?_
            refine lv_iconst (v := (-1)) hx hb dX9_comeBack_36 (by decide) ?_
            refine va_iast hx hb hK hP hD hS 6 0 rfl rfl (zinK (a := 0) (b := 7) i7.1 n14 (by decide)) dX9_comeBack_37 (fun H locs hP hD hS => ?_)
            obtain ⟨f23, rf23, hP, hD⟩ : ∃ f23 : Nat → Nat → Int32, zZ4 f23 ∧ va_P g.1 vwCl (List.flatten [bLog g go gr x_4 x_5 fr_6, bTown g o a pe wo tx ch jo tr dy x_2 f23]) H ∧ va_D A (List.flatten [bLog g go gr x_4 x_5 fr_6, bTown g o a pe wo tx ch jo tr dy x_2 f23]) := ⟨zu f_3 3 (upd (f_3 3) x_1.toNatClampNeg (-1)), (zZ4_u rf_3 (by decide)), hP, hD⟩
            refine lv_iload_n hx hb dX9_comeBack_38 rfl (lv_at hl 1 rfl) ?_
            refine lv_if_eq (tgt := 86) hx hb dX9_comeBack_39 (by decide) (fun cb9 => ?_) (fun cb9 => ?_)
            · skip
              have c24 : tl.toInt = 0 := zeq cb9 rfl (by decide)
              have n25 : 0 ≤ tl.toInt := Int.le_trans (Int.le_refl _) (Int.le_of_eq c24.symm)
              have n26 : tl.toInt ≤ 0 := Int.le_trans (Int.le_of_eq c24) (Int.le_refl _)
              refine ziinc3 (n' := 1) (a' := 1) (b' := 8) (lv' := fun v9 => [(3, .int v9), (0, .ref o), (1, .int tl), (2, .ref go)]) hx hb dX9_comeBack_86 hl (k := 3) rfl (by decide) (fun _ => rfl) (zaddK (i := x_1.toInt) (j := 1) rfl (by decide) i7.1 n14 (Int.le_refl _) (Int.le_refl _) (by decide)) (fun x_27 ls hx_27 hl => ?_)
              refine lv_goto (tgt := 2) hx hb dX9_comeBack_89 (by decide) ?_
              have hl := lv_sub (l' := [(0, .ref o), (1, .int tl), (2, .ref go), (3, .int x_27)]) hl [1, 2, 3, 0] rfl
              have hP : va_P g.1 vwCl (List.flatten [bLog g go gr x_4 x_5 fr_6, bTown g o a pe wo tx ch jo tr dy x_2 f23]) H := hP
              have hD : va_D A (List.flatten [bLog g go gr x_4 x_5 fr_6, bTown g o a pe wo tx ch jo tr dy x_2 f23]) := hD
              obtain ⟨hP, hD⟩ := zord (g := g) (Bs' := [bTown g o a pe wo tx ch jo tr dy x_2 f23, bLog g go gr x_4 x_5 fr_6]) [1, 0] rfl rfl hP hD
              have hP : va_P g.1 vwCl (List.flatten [bTown g o a pe wo tx ch jo tr dy x_2 f23, bLog g go gr x_4 x_5 fr_6]) H := hP
              have hD : va_D A (List.flatten [bTown g o a pe wo tx ch jo tr dy x_2 f23, bLog g go gr x_4 x_5 fr_6]) := hD
              exact ih2_11 x_27 x_2 f23 x_4 x_5 fr_6 ⟨(Int.le_trans (by decide) hx_27.2.1), hx_27.2.2⟩ rf23 ⟨i8.1, i8.2⟩ ⟨i9.1, i9.2⟩ H _ ls (zmK hx_27.1 (by decide) n14 (by decide) hk2_11)  hP hD hS (lv_sub hl [0, 1, 2, 3] rfl)
            · skip
              have c28 : ¬ tl.toInt = 0 := zne cb9 rfl (by decide)
              refine lv_aload_n hx hb dX9_comeBack_42 rfl (lv_at hl 0 rfl) ?_
              refine mcallV' (g := g) (q0 := 0) (ci := 7) (As := []) (rest := []) St hK hT hA hP hD hS hl.1 [1] [0] rfl rfl rfl (c_draw l g o a pe wo tx ch jo tr dy x_2 f23 ) (cwV 0 hts (zgL (zl4 k135 k136 k137 k24) k129) rfl rfl rfl (by decide +kernel) ⟨Nat.le_of_ble_eq_true rfl, Nat.le_of_ble_eq_true rfl⟩) rfl rfl rfl rfl (Nat.le_of_ble_eq_true rfl) dX9_comeBack_43 ⟨(Nat.le_of_ble_eq_true rfl), (Nat.le_of_ble_eq_true rfl)⟩ (fun u_ H locs hq31 hP hD hS => ?_)
              obtain ⟨sd2_29, q_30⟩ := u_
              have hP : va_P g.1 vwCl (List.flatten [bLog g go gr x_4 x_5 fr_6, bTown g o a pe wo tx ch jo tr dy sd2_29 f23]) H := hP
              have hD : va_D A (List.flatten [bLog g go gr x_4 x_5 fr_6, bTown g o a pe wo tx ch jo tr dy sd2_29 f23]) := hD
              refine W.widen (k := 0) (n := 0) (Nat.le_of_ble_eq_true rfl) (Nat.le_of_ble_eq_true rfl) ?_
              refine W.eq (g2 := F0 m 46 ls [.int q_30]) rfl ?_
              refine lv_bipush (v := 100) hx hb dX9_comeBack_46 (by decide) ?_
              refine lv_irem hx hb dX9_comeBack_48 (by decide) ?_
              refine zg (fun x_32 => ?_)
              refine lv_aload_n hx hb dX9_comeBack_49 rfl (lv_at hl 0 rfl) ?_
              refine va_get (D := g.1) (ci := 7) (v := .int tr) (C := RX9) (T := TX9) (N := 19) hx hb hts izRX9 hown hK hP 2 rfl rfl 5 (by decide) (hts _ k6) (fun _ h9 => h9) rfl dX9_comeBack_50 ?_
              refine lv_icmp_ge (tgt := 60) hx hb dX9_comeBack_53 (by decide) (fun cb9 => ?_) (fun cb9 => ?_)
              · skip
                have c33 : tr.toInt ≤ x_32.toInt := zle cb9 rfl rfl
                refine lv_iconst (v := 0) hx hb dX9_comeBack_60 (by decide) ?_
                refine lv_istore (lv' := [(4, .int 0), (0, .ref o), (1, .int tl), (2, .ref go), (3, .int x_1)]) hx hb dX9_comeBack_61 hl (by decide) rfl (fun ls hl => ?_)
                refine lv_aload_n hx hb dX9_comeBack_63 rfl (lv_at hl 1 rfl) ?_
                refine lv_iload_n hx hb dX9_comeBack_64 rfl (lv_at hl 4 rfl) ?_
                refine lv_iload hx hb dX9_comeBack_65 (lv_at hl 0 rfl) ?_
                refine mcallV' (g := g) (q0 := 0) (ci := 7) (As := [.int x_1, .int 0]) (rest := []) St hK hT hA hP hD hS hl.1 [1] [0] rfl rfl rfl (c_spread l g o a pe wo tx ch jo tr dy sd2_29 f23 x_1 0 b_pe b_wo rf23 (⟨i7.1, n14⟩)) (cwV 2 hts (zgL (zl4 k138 k139 k140 k24) k134) rfl rfl rfl (by decide +kernel) ⟨Nat.le_of_ble_eq_true rfl, Nat.le_of_ble_eq_true rfl⟩) rfl rfl rfl rfl (Nat.le_of_ble_eq_true rfl) dX9_comeBack_67 ⟨(Nat.le_of_ble_eq_true rfl), (Nat.le_of_ble_eq_true rfl)⟩ (fun f2_34 H locs hq35 hP hD hS => ?_)
                replace hq35 : (zZ4 f2_34) := hq35
                have hP : va_P g.1 vwCl (List.flatten [bLog g go gr x_4 x_5 fr_6, bTown g o a pe wo tx ch jo tr dy sd2_29 f2_34]) H := hP
                have hD : va_D A (List.flatten [bLog g go gr x_4 x_5 fr_6, bTown g o a pe wo tx ch jo tr dy sd2_29 f2_34]) := hD
                refine W.widen (k := 0) (n := 0) (Nat.le_of_ble_eq_true rfl) (Nat.le_of_ble_eq_true rfl) ?_
                refine W.eq (g2 := F0 m 70 ls []) rfl ?_
                have rf2_34 := hq35; clear hq35
                refine lv_aload_n hx hb dX9_comeBack_70 rfl (lv_at hl 1 rfl) ?_
                refine lv_aload_n hx hb dX9_comeBack_71 rfl (lv_at hl 3 rfl) ?_
                refine lv_iload_n hx hb dX9_comeBack_72 rfl (lv_at hl 4 rfl) ?_
                refine lv_iload hx hb dX9_comeBack_73 (lv_at hl 0 rfl) ?_
                refine lv_if_eq (tgt := 82) hx hb dX9_comeBack_75 (by decide) (fun _ => ?_) (fun c36 => absurd (by decide) c36)
                refine lv_iconst (v := 3) hx hb dX9_comeBack_82 (by decide) ?_
                refine mcallV' (g := g) (q0 := 0) (ci := 7) (As := [.ref go, .int x_1, .int 3]) (rest := []) St hK hT hA hP hD hS hl.1 [1, 0] [] rfl rfl rfl (c_write l g o a pe wo tx ch jo tr dy sd2_29 f2_34 go gr x_4 x_5 fr_6 x_1 3 b_pe b_wo rf2_34 i8 i9) (cwV 3 hts (zgL (zl4 k125 k126 k127 k24) k124) rfl rfl rfl (by decide +kernel) ⟨Nat.le_of_ble_eq_true rfl, Nat.le_of_ble_eq_true rfl⟩) rfl rfl rfl rfl (Nat.le_of_ble_eq_true rfl) dX9_comeBack_83 ⟨(Nat.le_of_ble_eq_true rfl), (Nat.le_of_ble_eq_true rfl)⟩ (fun u_ H locs hq40 hP hD hS => ?_)
                obtain ⟨gz2_37, gn2_38, fr2_39⟩ := u_
                replace hq40 : (0 ≤ gz2_37.toInt ∧ gz2_37.toInt ≤ 60) ∧ (0 ≤ gn2_38.toInt ∧ gn2_38.toInt ≤ 59) := hq40
                have hP : va_P g.1 vwCl (List.flatten [bTown g o a pe wo tx ch jo tr dy sd2_29 f2_34, bLog g go gr gz2_37 gn2_38 fr2_39]) H := hP
                have hD : va_D A (List.flatten [bTown g o a pe wo tx ch jo tr dy sd2_29 f2_34, bLog g go gr gz2_37 gn2_38 fr2_39]) := hD
                refine W.widen (k := 0) (n := 0) (Nat.le_of_ble_eq_true rfl) (Nat.le_of_ble_eq_true rfl) ?_
                refine W.eq (g2 := F0 m 86 ls []) rfl ?_
                obtain ⟨hq40_0, hq40_1⟩ := hq40
                refine ziinc3 (n' := 1) (a' := 1) (b' := 8) (lv' := fun v9 => [(3, .int v9), (4, .int 0), (0, .ref o), (1, .int tl), (2, .ref go)]) hx hb dX9_comeBack_86 hl (k := 4) rfl (by decide) (fun _ => rfl) (zaddK (i := x_1.toInt) (j := 1) rfl (by decide) i7.1 n14 (Int.le_refl _) (Int.le_refl _) (by decide)) (fun x_41 ls hx_41 hl => ?_)
                refine lv_goto (tgt := 2) hx hb dX9_comeBack_89 (by decide) ?_
                have hl := lv_sub (l' := [(0, .ref o), (1, .int tl), (2, .ref go), (3, .int x_41), (4, .int 0)]) hl [2, 3, 4, 0, 1] rfl
                have hP : va_P g.1 vwCl (List.flatten [bTown g o a pe wo tx ch jo tr dy sd2_29 f2_34, bLog g go gr gz2_37 gn2_38 fr2_39]) H := hP
                have hD : va_D A (List.flatten [bTown g o a pe wo tx ch jo tr dy sd2_29 f2_34, bLog g go gr gz2_37 gn2_38 fr2_39]) := hD
                exact ih2_11 x_41 sd2_29 f2_34 gz2_37 gn2_38 fr2_39 ⟨(Int.le_trans (by decide) hx_41.2.1), hx_41.2.2⟩ rf2_34 ⟨hq40_0.1, hq40_0.2⟩ ⟨hq40_1.1, hq40_1.2⟩ H _ ls (zmK hx_41.1 (by decide) n14 (by decide) hk2_11)  hP hD hS (lv_sub hl [0, 1, 2, 3] rfl)
              · skip
                have c42 : x_32.toInt < tr.toInt := zlti (Int32.not_le.mp cb9) rfl rfl
                refine lv_iconst (v := 1) hx hb dX9_comeBack_56 (by decide) ?_
                refine lv_goto (tgt := 61) hx hb dX9_comeBack_57 (by decide) ?_
                refine lv_istore (lv' := [(4, .int 1), (0, .ref o), (1, .int tl), (2, .ref go), (3, .int x_1)]) hx hb dX9_comeBack_61 hl (by decide) rfl (fun ls hl => ?_)
                refine lv_aload_n hx hb dX9_comeBack_63 rfl (lv_at hl 1 rfl) ?_
                refine lv_iload_n hx hb dX9_comeBack_64 rfl (lv_at hl 4 rfl) ?_
                refine lv_iload hx hb dX9_comeBack_65 (lv_at hl 0 rfl) ?_
                refine mcallV' (g := g) (q0 := 0) (ci := 7) (As := [.int x_1, .int 1]) (rest := []) St hK hT hA hP hD hS hl.1 [1] [0] rfl rfl rfl (c_spread l g o a pe wo tx ch jo tr dy sd2_29 f23 x_1 1 b_pe b_wo rf23 (⟨i7.1, n14⟩)) (cwV 2 hts (zgL (zl4 k138 k139 k140 k24) k134) rfl rfl rfl (by decide +kernel) ⟨Nat.le_of_ble_eq_true rfl, Nat.le_of_ble_eq_true rfl⟩) rfl rfl rfl rfl (Nat.le_of_ble_eq_true rfl) dX9_comeBack_67 ⟨(Nat.le_of_ble_eq_true rfl), (Nat.le_of_ble_eq_true rfl)⟩ (fun f2_43 H locs hq44 hP hD hS => ?_)
                replace hq44 : (zZ4 f2_43) := hq44
                have hP : va_P g.1 vwCl (List.flatten [bLog g go gr x_4 x_5 fr_6, bTown g o a pe wo tx ch jo tr dy sd2_29 f2_43]) H := hP
                have hD : va_D A (List.flatten [bLog g go gr x_4 x_5 fr_6, bTown g o a pe wo tx ch jo tr dy sd2_29 f2_43]) := hD
                refine W.widen (k := 0) (n := 0) (Nat.le_of_ble_eq_true rfl) (Nat.le_of_ble_eq_true rfl) ?_
                refine W.eq (g2 := F0 m 70 ls []) rfl ?_
                have rf2_43 := hq44; clear hq44
                refine lv_aload_n hx hb dX9_comeBack_70 rfl (lv_at hl 1 rfl) ?_
                refine lv_aload_n hx hb dX9_comeBack_71 rfl (lv_at hl 3 rfl) ?_
                refine lv_iload_n hx hb dX9_comeBack_72 rfl (lv_at hl 4 rfl) ?_
                refine lv_iload hx hb dX9_comeBack_73 (lv_at hl 0 rfl) ?_
                refine lv_if_eq (tgt := 82) hx hb dX9_comeBack_75 (by decide) (fun c45 => absurd c45 (by decide)) (fun _ => ?_)
                refine lv_iconst (v := 2) hx hb dX9_comeBack_78 (by decide) ?_
                refine lv_goto (tgt := 83) hx hb dX9_comeBack_79 (by decide) ?_
                refine mcallV' (g := g) (q0 := 0) (ci := 7) (As := [.ref go, .int x_1, .int 2]) (rest := []) St hK hT hA hP hD hS hl.1 [1, 0] [] rfl rfl rfl (c_write l g o a pe wo tx ch jo tr dy sd2_29 f2_43 go gr x_4 x_5 fr_6 x_1 2 b_pe b_wo rf2_43 i8 i9) (cwV 3 hts (zgL (zl4 k125 k126 k127 k24) k124) rfl rfl rfl (by decide +kernel) ⟨Nat.le_of_ble_eq_true rfl, Nat.le_of_ble_eq_true rfl⟩) rfl rfl rfl rfl (Nat.le_of_ble_eq_true rfl) dX9_comeBack_83 ⟨(Nat.le_of_ble_eq_true rfl), (Nat.le_of_ble_eq_true rfl)⟩ (fun u_ H locs hq49 hP hD hS => ?_)
                obtain ⟨gz2_46, gn2_47, fr2_48⟩ := u_
                replace hq49 : (0 ≤ gz2_46.toInt ∧ gz2_46.toInt ≤ 60) ∧ (0 ≤ gn2_47.toInt ∧ gn2_47.toInt ≤ 59) := hq49
                have hP : va_P g.1 vwCl (List.flatten [bTown g o a pe wo tx ch jo tr dy sd2_29 f2_43, bLog g go gr gz2_46 gn2_47 fr2_48]) H := hP
                have hD : va_D A (List.flatten [bTown g o a pe wo tx ch jo tr dy sd2_29 f2_43, bLog g go gr gz2_46 gn2_47 fr2_48]) := hD
                refine W.widen (k := 0) (n := 0) (Nat.le_of_ble_eq_true rfl) (Nat.le_of_ble_eq_true rfl) ?_
                refine W.eq (g2 := F0 m 86 ls []) rfl ?_
                obtain ⟨hq49_0, hq49_1⟩ := hq49
                refine ziinc3 (n' := 1) (a' := 1) (b' := 8) (lv' := fun v9 => [(3, .int v9), (4, .int 1), (0, .ref o), (1, .int tl), (2, .ref go)]) hx hb dX9_comeBack_86 hl (k := 4) rfl (by decide) (fun _ => rfl) (zaddK (i := x_1.toInt) (j := 1) rfl (by decide) i7.1 n14 (Int.le_refl _) (Int.le_refl _) (by decide)) (fun x_50 ls hx_50 hl => ?_)
                refine lv_goto (tgt := 2) hx hb dX9_comeBack_89 (by decide) ?_
                have hl := lv_sub (l' := [(0, .ref o), (1, .int tl), (2, .ref go), (3, .int x_50), (4, .int 1)]) hl [2, 3, 4, 0, 1] rfl
                have hP : va_P g.1 vwCl (List.flatten [bTown g o a pe wo tx ch jo tr dy sd2_29 f2_43, bLog g go gr gz2_46 gn2_47 fr2_48]) H := hP
                have hD : va_D A (List.flatten [bTown g o a pe wo tx ch jo tr dy sd2_29 f2_43, bLog g go gr gz2_46 gn2_47 fr2_48]) := hD
                exact ih2_11 x_50 sd2_29 f2_43 gz2_46 gn2_47 fr2_48 ⟨(Int.le_trans (by decide) hx_50.2.1), hx_50.2.2⟩ rf2_43 ⟨hq49_0.1, hq49_0.2⟩ ⟨hq49_1.1, hq49_1.2⟩ H _ ls (zmK hx_50.1 (by decide) n14 (by decide) hk2_11)  hP hD hS (lv_sub hl [0, 1, 2, 3] rfl)
        · skip
          refine lv_if_ne (tgt := 86) hx hb dX9_comeBack_15 (by decide) (fun _ => ?_) (fun c51 => absurd c51 (by decide))
          refine ziinc3 (n' := 1) (a' := 1) (b' := 8) (lv' := fun v9 => [(3, .int v9), (0, .ref o), (1, .int tl), (2, .ref go)]) hx hb dX9_comeBack_86 hl (k := 3) rfl (by decide) (fun _ => rfl) (zaddK (i := x_1.toInt) (j := 1) rfl (by decide) i7.1 n14 (Int.le_refl _) (Int.le_refl _) (by decide)) (fun x_52 ls hx_52 hl => ?_)
          refine lv_goto (tgt := 2) hx hb dX9_comeBack_89 (by decide) ?_
          have hl := lv_sub (l' := [(0, .ref o), (1, .int tl), (2, .ref go), (3, .int x_52)]) hl [1, 2, 3, 0] rfl
          have hP : va_P g.1 vwCl (List.flatten [bLog g go gr x_4 x_5 fr_6, bTown g o a pe wo tx ch jo tr dy x_2 f_3]) H := hP
          have hD : va_D A (List.flatten [bLog g go gr x_4 x_5 fr_6, bTown g o a pe wo tx ch jo tr dy x_2 f_3]) := hD
          obtain ⟨hP, hD⟩ := zord (g := g) (Bs' := [bTown g o a pe wo tx ch jo tr dy x_2 f_3, bLog g go gr x_4 x_5 fr_6]) [1, 0] rfl rfl hP hD
          have hP : va_P g.1 vwCl (List.flatten [bTown g o a pe wo tx ch jo tr dy x_2 f_3, bLog g go gr x_4 x_5 fr_6]) H := hP
          have hD : va_D A (List.flatten [bTown g o a pe wo tx ch jo tr dy x_2 f_3, bLog g go gr x_4 x_5 fr_6]) := hD
          exact ih2_11 x_52 x_2 f_3 x_4 x_5 fr_6 ⟨(Int.le_trans (by decide) hx_52.2.1), hx_52.2.2⟩ rf_3 ⟨i8.1, i8.2⟩ ⟨i9.1, i9.2⟩ H _ ls (zmK hx_52.1 (by decide) n14 (by decide) hk2_11)  hP hD hS (lv_sub hl [0, 1, 2, 3] rfl)
  have hP : va_P g.1 vwCl (List.flatten [bTown g o a pe wo tx ch jo tr dy sd f, bLog g go gr gz gn fr]) s.heap := hP
  have hD : va_D A (List.flatten [bTown g o a pe wo tx ch jo tr dy sd f, bLog g go gr gz gn fr]) := hD
  exact LP2_10 _ 0 sd f gz gn fr (by decide) rf ⟨b_gz.1, b_gz.2⟩ ⟨b_gn.1, b_gn.2⟩ s.heap _ ls (Nat.lt_succ_self _)  hP hD hS (lv_sub hl [0, 1, 2, 3] rfl)
