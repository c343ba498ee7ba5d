set_option maxRecDepth 100000 in
set_option maxHeartbeats 4000000 in
/-- a town is copied -/
theorem c_Town_copyFrom (l : Launch) (g : zG) (o : Nat) (a : Nat → Nat) (pe : Int32) (wo : Int32) (tx : Int32) (ch : Int32) (jo : Int32) (tr : Int32) (dy : Int32) (sd : Int32) (f : Nat → Nat → Int32) (o2 : Nat) (a2 : Nat → Nat) (pe2 : Int32) (wo2 : Int32) (tx2 : Int32) (ch2 : Int32) (jo2 : Int32) (tr2 : Int32) (dy2 : Int32) (sd2 : Int32) (f2 : Nat → Nat → Int32) (hz : zZ (f2 4)) : zM g l yX9_copyFrom (Cond.code yX9_copyFrom cX9_copyFrom 2 none :: zB) ({ frames := 1, cells := 0, slots := 0, locals := 40 } : Room) [.ref o, .ref o2] [bTown g o a pe wo tx ch jo tr dy sd f, bTown g o2 a2 pe2 wo2 tx2 ch2 jo2 tr2 dy2 sd2 f2] (fun (h : Nat → Nat → Int32) => none) (fun (h : Nat → Nat → Int32) => zZ (h 4)) (fun (h : Nat → Nat → Int32) => [bTown g o a pe2 wo2 tx2 ch2 jo2 tr2 dy2 sd2 h, bTown g o2 a2 pe2 wo2 tx2 ch2 jo2 tr2 dy2 sd2 f2]) := by
  refine zM.of (cc := cX9_copyFrom) (maxL := 2) (rt := none) (by decide) rfl (Nat.le_of_ble_eq_true rfl) ?_
  intro p e s m args below meth c A ls St hr hlocks hin hK hT hA hP hD hS hl
  obtain ⟨hx, hb, hml, hown, hts⟩ := id St
  have hl : lv_has ls 2 [(0, .ref o), (1, .ref o2)] := hl
  refine lv_aload_n hx hb dX9_copyFrom_0 rfl (lv_at hl 0 rfl) ?_
  refine lv_aload_n hx hb dX9_copyFrom_1 rfl (lv_at hl 1 rfl) ?_
  refine va_get (D := g.1) (ci := 7) (v := .int pe2) (C := RX9) (T := TX9) (N := 19) hx hb hts izRX9 hown hK hP 12 rfl rfl 0 (by decide) (hts _ k31) (fun _ h9 => h9) rfl dX9_copyFrom_2 ?_
  refine va_put (D := g.1) (ci := 7) (v := .int pe2) (ty := .int) (C := RX9) (T := TX9) (N := 19) hx hb hts izRX9 tyX9 tyX9_ok nmX9 hown hK hP hD hS 0 rfl rfl 0 (by decide) (hts _ k31) (fun _ h9 => h9) rfl (by decide +kernel) rfl rfl (Nat.le_of_ble_eq_true rfl) dX9_copyFrom_5 (fun H locs hP hD hS => ?_)
  have hP : va_P g.1 vwCl (List.flatten [[(o, .inr (7, [.int pe2, .int wo, .int tx, .int ch, .int jo, .int tr, .int dy, .int sd, .ref (a 0), .ref (a 1), .ref (a 2), .ref (a 3), .ref (a 4), .ref (a 5), .ref (a 6), .ref (a 7), .ref (a 8), .ref (a 9), .ref (a 10)])), (a 0, .inl (g.2 0, 8, .inl (f 0))), (a 1, .inl (g.2 0, 8, .inl (f 1))), (a 2, .inl (g.2 0, 8, .inl (f 2))), (a 3, .inl (g.2 0, 8, .inl (f 3))), (a 4, .inl (g.2 1, 8, .inl (f 4))), (a 5, .inl (g.2 0, 64, .inl (f 5))), (a 6, .inl (g.2 0, 6, .inl (f 6))), (a 7, .inl (g.2 0, 6, .inl (f 7))), (a 8, .inl (g.2 0, 6, .inl (f 8))), (a 9, .inl (g.2 0, 6, .inl (f 9))), (a 10, .inl (g.2 0, 8, .inl (f 10)))], bTown g o2 a2 pe2 wo2 tx2 ch2 jo2 tr2 dy2 sd2 f2]) H := hP
  have hD : va_D A (List.flatten [[(o, .inr (7, [.int pe2, .int wo, .int tx, .int ch, .int jo, .int tr, .int dy, .int sd, .ref (a 0), .ref (a 1), .ref (a 2), .ref (a 3), .ref (a 4), .ref (a 5), .ref (a 6), .ref (a 7), .ref (a 8), .ref (a 9), .ref (a 10)])), (a 0, .inl (g.2 0, 8, .inl (f 0))), (a 1, .inl (g.2 0, 8, .inl (f 1))), (a 2, .inl (g.2 0, 8, .inl (f 2))), (a 3, .inl (g.2 0, 8, .inl (f 3))), (a 4, .inl (g.2 1, 8, .inl (f 4))), (a 5, .inl (g.2 0, 64, .inl (f 5))), (a 6, .inl (g.2 0, 6, .inl (f 6))), (a 7, .inl (g.2 0, 6, .inl (f 7))), (a 8, .inl (g.2 0, 6, .inl (f 8))), (a 9, .inl (g.2 0, 6, .inl (f 9))), (a 10, .inl (g.2 0, 8, .inl (f 10)))], bTown g o2 a2 pe2 wo2 tx2 ch2 jo2 tr2 dy2 sd2 f2]) := hD
  refine lv_aload_n hx hb dX9_copyFrom_8 rfl (lv_at hl 0 rfl) ?_
  refine lv_aload_n hx hb dX9_copyFrom_9 rfl (lv_at hl 1 rfl) ?_
  refine va_get (D := g.1) (ci := 7) (v := .int wo2) (C := RX9) (T := TX9) (N := 19) hx hb hts izRX9 hown hK hP 12 rfl rfl 1 (by decide) (hts _ k32) (fun _ h9 => h9) rfl dX9_copyFrom_10 ?_
  refine va_put (D := g.1) (ci := 7) (v := .int wo2) (ty := .int) (C := RX9) (T := TX9) (N := 19) hx hb hts izRX9 tyX9 tyX9_ok nmX9 hown hK hP hD hS 0 rfl rfl 1 (by decide) (hts _ k32) (fun _ h9 => h9) rfl (by decide +kernel) rfl rfl (Nat.le_of_ble_eq_true rfl) dX9_copyFrom_13 (fun H locs hP hD hS => ?_)
  have hP : va_P g.1 vwCl (List.flatten [[(o, .inr (7, [.int pe2, .int wo2, .int tx, .int ch, .int jo, .int tr, .int dy, .int sd, .ref (a 0), .ref (a 1), .ref (a 2), .ref (a 3), .ref (a 4), .ref (a 5), .ref (a 6), .ref (a 7), .ref (a 8), .ref (a 9), .ref (a 10)])), (a 0, .inl (g.2 0, 8, .inl (f 0))), (a 1, .inl (g.2 0, 8, .inl (f 1))), (a 2, .inl (g.2 0, 8, .inl (f 2))), (a 3, .inl (g.2 0, 8, .inl (f 3))), (a 4, .inl (g.2 1, 8, .inl (f 4))), (a 5, .inl (g.2 0, 64, .inl (f 5))), (a 6, .inl (g.2 0, 6, .inl (f 6))), (a 7, .inl (g.2 0, 6, .inl (f 7))), (a 8, .inl (g.2 0, 6, .inl (f 8))), (a 9, .inl (g.2 0, 6, .inl (f 9))), (a 10, .inl (g.2 0, 8, .inl (f 10)))], bTown g o2 a2 pe2 wo2 tx2 ch2 jo2 tr2 dy2 sd2 f2]) H := hP
  have hD : va_D A (List.flatten [[(o, .inr (7, [.int pe2, .int wo2, .int tx, .int ch, .int jo, .int tr, .int dy, .int sd, .ref (a 0), .ref (a 1), .ref (a 2), .ref (a 3), .ref (a 4), .ref (a 5), .ref (a 6), .ref (a 7), .ref (a 8), .ref (a 9), .ref (a 10)])), (a 0, .inl (g.2 0, 8, .inl (f 0))), (a 1, .inl (g.2 0, 8, .inl (f 1))), (a 2, .inl (g.2 0, 8, .inl (f 2))), (a 3, .inl (g.2 0, 8, .inl (f 3))), (a 4, .inl (g.2 1, 8, .inl (f 4))), (a 5, .inl (g.2 0, 64, .inl (f 5))), (a 6, .inl (g.2 0, 6, .inl (f 6))), (a 7, .inl (g.2 0, 6, .inl (f 7))), (a 8, .inl (g.2 0, 6, .inl (f 8))), (a 9, .inl (g.2 0, 6, .inl (f 9))), (a 10, .inl (g.2 0, 8, .inl (f 10)))], bTown g o2 a2 pe2 wo2 tx2 ch2 jo2 tr2 dy2 sd2 f2]) := hD
  refine lv_aload_n hx hb dX9_copyFrom_16 rfl (lv_at hl 0 rfl) ?_
  refine lv_aload_n hx hb dX9_copyFrom_17 rfl (lv_at hl 1 rfl) ?_
  refine va_get (D := g.1) (ci := 7) (v := .int tx2) (C := RX9) (T := TX9) (N := 19) hx hb hts izRX9 hown hK hP 12 rfl rfl 2 (by decide) (hts _ k33) (fun _ h9 => h9) rfl dX9_copyFrom_18 ?_
  refine va_put (D := g.1) (ci := 7) (v := .int tx2) (ty := .int) (C := RX9) (T := TX9) (N := 19) hx hb hts izRX9 tyX9 tyX9_ok nmX9 hown hK hP hD hS 0 rfl rfl 2 (by decide) (hts _ k33) (fun _ h9 => h9) rfl (by decide +kernel) rfl rfl (Nat.le_of_ble_eq_true rfl) dX9_copyFrom_21 (fun H locs hP hD hS => ?_)
  have hP : va_P g.1 vwCl (List.flatten [[(o, .inr (7, [.int pe2, .int wo2, .int tx2, .int ch, .int jo, .int tr, .int dy, .int sd, .ref (a 0), .ref (a 1), .ref (a 2), .ref (a 3), .ref (a 4), .ref (a 5), .ref (a 6), .ref (a 7), .ref (a 8), .ref (a 9), .ref (a 10)])), (a 0, .inl (g.2 0, 8, .inl (f 0))), (a 1, .inl (g.2 0, 8, .inl (f 1))), (a 2, .inl (g.2 0, 8, .inl (f 2))), (a 3, .inl (g.2 0, 8, .inl (f 3))), (a 4, .inl (g.2 1, 8, .inl (f 4))), (a 5, .inl (g.2 0, 64, .inl (f 5))), (a 6, .inl (g.2 0, 6, .inl (f 6))), (a 7, .inl (g.2 0, 6, .inl (f 7))), (a 8, .inl (g.2 0, 6, .inl (f 8))), (a 9, .inl (g.2 0, 6, .inl (f 9))), (a 10, .inl (g.2 0, 8, .inl (f 10)))], bTown g o2 a2 pe2 wo2 tx2 ch2 jo2 tr2 dy2 sd2 f2]) H := hP
  have hD : va_D A (List.flatten [[(o, .inr (7, [.int pe2, .int wo2, .int tx2, .int ch, .int jo, .int tr, .int dy, .int sd, .ref (a 0), .ref (a 1), .ref (a 2), .ref (a 3), .ref (a 4), .ref (a 5), .ref (a 6), .ref (a 7), .ref (a 8), .ref (a 9), .ref (a 10)])), (a 0, .inl (g.2 0, 8, .inl (f 0))), (a 1, .inl (g.2 0, 8, .inl (f 1))), (a 2, .inl (g.2 0, 8, .inl (f 2))), (a 3, .inl (g.2 0, 8, .inl (f 3))), (a 4, .inl (g.2 1, 8, .inl (f 4))), (a 5, .inl (g.2 0, 64, .inl (f 5))), (a 6, .inl (g.2 0, 6, .inl (f 6))), (a 7, .inl (g.2 0, 6, .inl (f 7))), (a 8, .inl (g.2 0, 6, .inl (f 8))), (a 9, .inl (g.2 0, 6, .inl (f 9))), (a 10, .inl (g.2 0, 8, .inl (f 10)))], bTown g o2 a2 pe2 wo2 tx2 ch2 jo2 tr2 dy2 sd2 f2]) := hD
  refine lv_aload_n hx hb dX9_copyFrom_24 rfl (lv_at hl 0 rfl) ?_
  refine lv_aload_n hx hb dX9_copyFrom_25 rfl (lv_at hl 1 rfl) ?_
  refine va_get (D := g.1) (ci := 7) (v := .int ch2) (C := RX9) (T := TX9) (N := 19) hx hb hts izRX9 hown hK hP 12 rfl rfl 3 (by decide) (hts _ k4) (fun _ h9 => h9) rfl dX9_copyFrom_26 ?_
  refine va_put (D := g.1) (ci := 7) (v := .int ch2) (ty := .int) (C := RX9) (T := TX9) (N := 19) hx hb hts izRX9 tyX9 tyX9_ok nmX9 hown hK hP hD hS 0 rfl rfl 3 (by decide) (hts _ k4) (fun _ h9 => h9) rfl (by decide +kernel) rfl rfl (Nat.le_of_ble_eq_true rfl) dX9_copyFrom_29 (fun H locs hP hD hS => ?_)
  have hP : va_P g.1 vwCl (List.flatten [[(o, .inr (7, [.int pe2, .int wo2, .int tx2, .int ch2, .int jo, .int tr, .int dy, .int sd, .ref (a 0), .ref (a 1), .ref (a 2), .ref (a 3), .ref (a 4), .ref (a 5), .ref (a 6), .ref (a 7), .ref (a 8), .ref (a 9), .ref (a 10)])), (a 0, .inl (g.2 0, 8, .inl (f 0))), (a 1, .inl (g.2 0, 8, .inl (f 1))), (a 2, .inl (g.2 0, 8, .inl (f 2))), (a 3, .inl (g.2 0, 8, .inl (f 3))), (a 4, .inl (g.2 1, 8, .inl (f 4))), (a 5, .inl (g.2 0, 64, .inl (f 5))), (a 6, .inl (g.2 0, 6, .inl (f 6))), (a 7, .inl (g.2 0, 6, .inl (f 7))), (a 8, .inl (g.2 0, 6, .inl (f 8))), (a 9, .inl (g.2 0, 6, .inl (f 9))), (a 10, .inl (g.2 0, 8, .inl (f 10)))], bTown g o2 a2 pe2 wo2 tx2 ch2 jo2 tr2 dy2 sd2 f2]) H := hP
  have hD : va_D A (List.flatten [[(o, .inr (7, [.int pe2, .int wo2, .int tx2, .int ch2, .int jo, .int tr, .int dy, .int sd, .ref (a 0), .ref (a 1), .ref (a 2), .ref (a 3), .ref (a 4), .ref (a 5), .ref (a 6), .ref (a 7), .ref (a 8), .ref (a 9), .ref (a 10)])), (a 0, .inl (g.2 0, 8, .inl (f 0))), (a 1, .inl (g.2 0, 8, .inl (f 1))), (a 2, .inl (g.2 0, 8, .inl (f 2))), (a 3, .inl (g.2 0, 8, .inl (f 3))), (a 4, .inl (g.2 1, 8, .inl (f 4))), (a 5, .inl (g.2 0, 64, .inl (f 5))), (a 6, .inl (g.2 0, 6, .inl (f 6))), (a 7, .inl (g.2 0, 6, .inl (f 7))), (a 8, .inl (g.2 0, 6, .inl (f 8))), (a 9, .inl (g.2 0, 6, .inl (f 9))), (a 10, .inl (g.2 0, 8, .inl (f 10)))], bTown g o2 a2 pe2 wo2 tx2 ch2 jo2 tr2 dy2 sd2 f2]) := hD
  refine lv_aload_n hx hb dX9_copyFrom_32 rfl (lv_at hl 0 rfl) ?_
  refine lv_aload_n hx hb dX9_copyFrom_33 rfl (lv_at hl 1 rfl) ?_
  refine va_get (D := g.1) (ci := 7) (v := .int jo2) (C := RX9) (T := TX9) (N := 19) hx hb hts izRX9 hown hK hP 12 rfl rfl 4 (by decide) (hts _ k5) (fun _ h9 => h9) rfl dX9_copyFrom_34 ?_
  refine va_put (D := g.1) (ci := 7) (v := .int jo2) (ty := .int) (C := RX9) (T := TX9) (N := 19) hx hb hts izRX9 tyX9 tyX9_ok nmX9 hown hK hP hD hS 0 rfl rfl 4 (by decide) (hts _ k5) (fun _ h9 => h9) rfl (by decide +kernel) rfl rfl (Nat.le_of_ble_eq_true rfl) dX9_copyFrom_37 (fun H locs hP hD hS => ?_)
  have hP : va_P g.1 vwCl (List.flatten [[(o, .inr (7, [.int pe2, .int wo2, .int tx2, .int ch2, .int jo2, .int tr, .int dy, .int sd, .ref (a 0), .ref (a 1), .ref (a 2), .ref (a 3), .ref (a 4), .ref (a 5), .ref (a 6), .ref (a 7), .ref (a 8), .ref (a 9), .ref (a 10)])), (a 0, .inl (g.2 0, 8, .inl (f 0))), (a 1, .inl (g.2 0, 8, .inl (f 1))), (a 2, .inl (g.2 0, 8, .inl (f 2))), (a 3, .inl (g.2 0, 8, .inl (f 3))), (a 4, .inl (g.2 1, 8, .inl (f 4))), (a 5, .inl (g.2 0, 64, .inl (f 5))), (a 6, .inl (g.2 0, 6, .inl (f 6))), (a 7, .inl (g.2 0, 6, .inl (f 7))), (a 8, .inl (g.2 0, 6, .inl (f 8))), (a 9, .inl (g.2 0, 6, .inl (f 9))), (a 10, .inl (g.2 0, 8, .inl (f 10)))], bTown g o2 a2 pe2 wo2 tx2 ch2 jo2 tr2 dy2 sd2 f2]) H := hP
  have hD : va_D A (List.flatten [[(o, .inr (7, [.int pe2, .int wo2, .int tx2, .int ch2, .int jo2, .int tr, .int dy, .int sd, .ref (a 0), .ref (a 1), .ref (a 2), .ref (a 3), .ref (a 4), .ref (a 5), .ref (a 6), .ref (a 7), .ref (a 8), .ref (a 9), .ref (a 10)])), (a 0, .inl (g.2 0, 8, .inl (f 0))), (a 1, .inl (g.2 0, 8, .inl (f 1))), (a 2, .inl (g.2 0, 8, .inl (f 2))), (a 3, .inl (g.2 0, 8, .inl (f 3))), (a 4, .inl (g.2 1, 8, .inl (f 4))), (a 5, .inl (g.2 0, 64, .inl (f 5))), (a 6, .inl (g.2 0, 6, .inl (f 6))), (a 7, .inl (g.2 0, 6, .inl (f 7))), (a 8, .inl (g.2 0, 6, .inl (f 8))), (a 9, .inl (g.2 0, 6, .inl (f 9))), (a 10, .inl (g.2 0, 8, .inl (f 10)))], bTown g o2 a2 pe2 wo2 tx2 ch2 jo2 tr2 dy2 sd2 f2]) := hD
  refine lv_aload_n hx hb dX9_copyFrom_40 rfl (lv_at hl 0 rfl) ?_
  refine lv_aload_n hx hb dX9_copyFrom_41 rfl (lv_at hl 1 rfl) ?_
  refine va_get (D := g.1) (ci := 7) (v := .int tr2) (C := RX9) (T := TX9) (N := 19) hx hb hts izRX9 hown hK hP 12 rfl rfl 5 (by decide) (hts _ k6) (fun _ h9 => h9) rfl dX9_copyFrom_42 ?_
  refine va_put (D := g.1) (ci := 7) (v := .int tr2) (ty := .int) (C := RX9) (T := TX9) (N := 19) hx hb hts izRX9 tyX9 tyX9_ok nmX9 hown hK hP hD hS 0 rfl rfl 5 (by decide) (hts _ k6) (fun _ h9 => h9) rfl (by decide +kernel) rfl rfl (Nat.le_of_ble_eq_true rfl) dX9_copyFrom_45 (fun H locs hP hD hS => ?_)
  have hP : va_P g.1 vwCl (List.flatten [[(o, .inr (7, [.int pe2, .int wo2, .int tx2, .int ch2, .int jo2, .int tr2, .int dy, .int sd, .ref (a 0), .ref (a 1), .ref (a 2), .ref (a 3), .ref (a 4), .ref (a 5), .ref (a 6), .ref (a 7), .ref (a 8), .ref (a 9), .ref (a 10)])), (a 0, .inl (g.2 0, 8, .inl (f 0))), (a 1, .inl (g.2 0, 8, .inl (f 1))), (a 2, .inl (g.2 0, 8, .inl (f 2))), (a 3, .inl (g.2 0, 8, .inl (f 3))), (a 4, .inl (g.2 1, 8, .inl (f 4))), (a 5, .inl (g.2 0, 64, .inl (f 5))), (a 6, .inl (g.2 0, 6, .inl (f 6))), (a 7, .inl (g.2 0, 6, .inl (f 7))), (a 8, .inl (g.2 0, 6, .inl (f 8))), (a 9, .inl (g.2 0, 6, .inl (f 9))), (a 10, .inl (g.2 0, 8, .inl (f 10)))], bTown g o2 a2 pe2 wo2 tx2 ch2 jo2 tr2 dy2 sd2 f2]) H := hP
  have hD : va_D A (List.flatten [[(o, .inr (7, [.int pe2, .int wo2, .int tx2, .int ch2, .int jo2, .int tr2, .int dy, .int sd, .ref (a 0), .ref (a 1), .ref (a 2), .ref (a 3), .ref (a 4), .ref (a 5), .ref (a 6), .ref (a 7), .ref (a 8), .ref (a 9), .ref (a 10)])), (a 0, .inl (g.2 0, 8, .inl (f 0))), (a 1, .inl (g.2 0, 8, .inl (f 1))), (a 2, .inl (g.2 0, 8, .inl (f 2))), (a 3, .inl (g.2 0, 8, .inl (f 3))), (a 4, .inl (g.2 1, 8, .inl (f 4))), (a 5, .inl (g.2 0, 64, .inl (f 5))), (a 6, .inl (g.2 0, 6, .inl (f 6))), (a 7, .inl (g.2 0, 6, .inl (f 7))), (a 8, .inl (g.2 0, 6, .inl (f 8))), (a 9, .inl (g.2 0, 6, .inl (f 9))), (a 10, .inl (g.2 0, 8, .inl (f 10)))], bTown g o2 a2 pe2 wo2 tx2 ch2 jo2 tr2 dy2 sd2 f2]) := hD
  refine lv_aload_n hx hb dX9_copyFrom_48 rfl (lv_at hl 0 rfl) ?_
  refine lv_aload_n hx hb dX9_copyFrom_49 rfl (lv_at hl 1 rfl) ?_
  refine va_get (D := g.1) (ci := 7) (v := .int dy2) (C := RX9) (T := TX9) (N := 19) hx hb hts izRX9 hown hK hP 12 rfl rfl 6 (by decide) (hts _ k34) (fun _ h9 => h9) rfl dX9_copyFrom_50 ?_
  refine va_put (D := g.1) (ci := 7) (v := .int dy2) (ty := .int) (C := RX9) (T := TX9) (N := 19) hx hb hts izRX9 tyX9 tyX9_ok nmX9 hown hK hP hD hS 0 rfl rfl 6 (by decide) (hts _ k34) (fun _ h9 => h9) rfl (by decide +kernel) rfl rfl (Nat.le_of_ble_eq_true rfl) dX9_copyFrom_53 (fun H locs hP hD hS => ?_)
  have hP : va_P g.1 vwCl (List.flatten [[(o, .inr (7, [.int pe2, .int wo2, .int tx2, .int ch2, .int jo2, .int tr2, .int dy2, .int sd, .ref (a 0), .ref (a 1), .ref (a 2), .ref (a 3), .ref (a 4), .ref (a 5), .ref (a 6), .ref (a 7), .ref (a 8), .ref (a 9), .ref (a 10)])), (a 0, .inl (g.2 0, 8, .inl (f 0))), (a 1, .inl (g.2 0, 8, .inl (f 1))), (a 2, .inl (g.2 0, 8, .inl (f 2))), (a 3, .inl (g.2 0, 8, .inl (f 3))), (a 4, .inl (g.2 1, 8, .inl (f 4))), (a 5, .inl (g.2 0, 64, .inl (f 5))), (a 6, .inl (g.2 0, 6, .inl (f 6))), (a 7, .inl (g.2 0, 6, .inl (f 7))), (a 8, .inl (g.2 0, 6, .inl (f 8))), (a 9, .inl (g.2 0, 6, .inl (f 9))), (a 10, .inl (g.2 0, 8, .inl (f 10)))], bTown g o2 a2 pe2 wo2 tx2 ch2 jo2 tr2 dy2 sd2 f2]) H := hP
  have hD : va_D A (List.flatten [[(o, .inr (7, [.int pe2, .int wo2, .int tx2, .int ch2, .int jo2, .int tr2, .int dy2, .int sd, .ref (a 0), .ref (a 1), .ref (a 2), .ref (a 3), .ref (a 4), .ref (a 5), .ref (a 6), .ref (a 7), .ref (a 8), .ref (a 9), .ref (a 10)])), (a 0, .inl (g.2 0, 8, .inl (f 0))), (a 1, .inl (g.2 0, 8, .inl (f 1))), (a 2, .inl (g.2 0, 8, .inl (f 2))), (a 3, .inl (g.2 0, 8, .inl (f 3))), (a 4, .inl (g.2 1, 8, .inl (f 4))), (a 5, .inl (g.2 0, 64, .inl (f 5))), (a 6, .inl (g.2 0, 6, .inl (f 6))), (a 7, .inl (g.2 0, 6, .inl (f 7))), (a 8, .inl (g.2 0, 6, .inl (f 8))), (a 9, .inl (g.2 0, 6, .inl (f 9))), (a 10, .inl (g.2 0, 8, .inl (f 10)))], bTown g o2 a2 pe2 wo2 tx2 ch2 jo2 tr2 dy2 sd2 f2]) := hD
  refine lv_aload_n hx hb dX9_copyFrom_56 rfl (lv_at hl 0 rfl) ?_
  refine lv_aload_n hx hb dX9_copyFrom_57 rfl (lv_at hl 1 rfl) ?_
  refine va_get (D := g.1) (ci := 7) (v := .int sd2) (C := RX9) (T := TX9) (N := 19) hx hb hts izRX9 hown hK hP 12 rfl rfl 7 (by decide) (hts _ k7) (fun _ h9 => h9) rfl dX9_copyFrom_58 ?_
  refine va_put (D := g.1) (ci := 7) (v := .int sd2) (ty := .int) (C := RX9) (T := TX9) (N := 19) hx hb hts izRX9 tyX9 tyX9_ok nmX9 hown hK hP hD hS 0 rfl rfl 7 (by decide) (hts _ k7) (fun _ h9 => h9) rfl (by decide +kernel) rfl rfl (Nat.le_of_ble_eq_true rfl) dX9_copyFrom_61 (fun H locs hP hD hS => ?_)
  have hP : va_P g.1 vwCl (List.flatten [[(o, .inr (7, [.int pe2, .int wo2, .int tx2, .int ch2, .int jo2, .int tr2, .int dy2, .int sd2, .ref (a 0), .ref (a 1), .ref (a 2), .ref (a 3), .ref (a 4), .ref (a 5), .ref (a 6), .ref (a 7), .ref (a 8), .ref (a 9), .ref (a 10)])), (a 0, .inl (g.2 0, 8, .inl (f 0))), (a 1, .inl (g.2 0, 8, .inl (f 1))), (a 2, .inl (g.2 0, 8, .inl (f 2))), (a 3, .inl (g.2 0, 8, .inl (f 3))), (a 4, .inl (g.2 1, 8, .inl (f 4))), (a 5, .inl (g.2 0, 64, .inl (f 5))), (a 6, .inl (g.2 0, 6, .inl (f 6))), (a 7, .inl (g.2 0, 6, .inl (f 7))), (a 8, .inl (g.2 0, 6, .inl (f 8))), (a 9, .inl (g.2 0, 6, .inl (f 9))), (a 10, .inl (g.2 0, 8, .inl (f 10)))], bTown g o2 a2 pe2 wo2 tx2 ch2 jo2 tr2 dy2 sd2 f2]) H := hP
  have hD : va_D A (List.flatten [[(o, .inr (7, [.int pe2, .int wo2, .int tx2, .int ch2, .int jo2, .int tr2, .int dy2, .int sd2, .ref (a 0), .ref (a 1), .ref (a 2), .ref (a 3), .ref (a 4), .ref (a 5), .ref (a 6), .ref (a 7), .ref (a 8), .ref (a 9), .ref (a 10)])), (a 0, .inl (g.2 0, 8, .inl (f 0))), (a 1, .inl (g.2 0, 8, .inl (f 1))), (a 2, .inl (g.2 0, 8, .inl (f 2))), (a 3, .inl (g.2 0, 8, .inl (f 3))), (a 4, .inl (g.2 1, 8, .inl (f 4))), (a 5, .inl (g.2 0, 64, .inl (f 5))), (a 6, .inl (g.2 0, 6, .inl (f 6))), (a 7, .inl (g.2 0, 6, .inl (f 7))), (a 8, .inl (g.2 0, 6, .inl (f 8))), (a 9, .inl (g.2 0, 6, .inl (f 9))), (a 10, .inl (g.2 0, 8, .inl (f 10)))], bTown g o2 a2 pe2 wo2 tx2 ch2 jo2 tr2 dy2 sd2 f2]) := hD
  refine lv_aload_n hx hb dX9_copyFrom_64 rfl (lv_at hl 1 rfl) ?_
  refine va_get (D := g.1) (ci := 7) (v := .ref (a2 0)) (C := RX9) (T := TX9) (N := 19) hx hb hts izRX9 hown hK hP 12 rfl rfl 8 (by decide) (hts _ k9) (fun _ h9 => h9) rfl dX9_copyFrom_65 ?_
  refine lv_iconst (v := 0) hx hb dX9_copyFrom_68 (by decide) ?_
  refine lv_aload_n hx hb dX9_copyFrom_69 rfl (lv_at hl 0 rfl) ?_
  refine va_get (D := g.1) (ci := 7) (v := .ref (a 0)) (C := RX9) (T := TX9) (N := 19) hx hb hts izRX9 hown hK hP 0 rfl rfl 8 (by decide) (hts _ k9) (fun _ h9 => h9) rfl dX9_copyFrom_70 ?_
  refine lv_iconst (v := 0) hx hb dX9_copyFrom_73 (by decide) ?_
  refine lv_bipush (v := 8) hx hb dX9_copyFrom_74 (by decide) ?_
  refine va_copyi (D := g.1) (ty := .int) hx hb (by rw [hml]; exact hl.1.symm) hown (hts _ k35) (hts _ k36) (hts _ k37) (hts _ k38) hK hP hD hS 13 1 0 0 rfl rfl rfl rfl rfl (by decide) (by decide) (by decide) (by decide) (by decide) (fun _ _ => rfl) (Nat.le_of_ble_eq_true rfl) (by decide) dX9_copyFrom_76 (fun H locs hP hD hS => ?_)
  have hP : va_P g.1 vwCl (List.flatten [[(o, .inr (7, [.int pe2, .int wo2, .int tx2, .int ch2, .int jo2, .int tr2, .int dy2, .int sd2, .ref (a 0), .ref (a 1), .ref (a 2), .ref (a 3), .ref (a 4), .ref (a 5), .ref (a 6), .ref (a 7), .ref (a 8), .ref (a 9), .ref (a 10)])), (a 0, .inl (g.2 0, 8, .inl (va_cpy (f2 0) (f 0) 0 0 8))), (a 1, .inl (g.2 0, 8, .inl (f 1))), (a 2, .inl (g.2 0, 8, .inl (f 2))), (a 3, .inl (g.2 0, 8, .inl (f 3))), (a 4, .inl (g.2 1, 8, .inl (f 4))), (a 5, .inl (g.2 0, 64, .inl (f 5))), (a 6, .inl (g.2 0, 6, .inl (f 6))), (a 7, .inl (g.2 0, 6, .inl (f 7))), (a 8, .inl (g.2 0, 6, .inl (f 8))), (a 9, .inl (g.2 0, 6, .inl (f 9))), (a 10, .inl (g.2 0, 8, .inl (f 10)))], bTown g o2 a2 pe2 wo2 tx2 ch2 jo2 tr2 dy2 sd2 f2]) H := hP
  have hD : va_D A (List.flatten [[(o, .inr (7, [.int pe2, .int wo2, .int tx2, .int ch2, .int jo2, .int tr2, .int dy2, .int sd2, .ref (a 0), .ref (a 1), .ref (a 2), .ref (a 3), .ref (a 4), .ref (a 5), .ref (a 6), .ref (a 7), .ref (a 8), .ref (a 9), .ref (a 10)])), (a 0, .inl (g.2 0, 8, .inl (va_cpy (f2 0) (f 0) 0 0 8))), (a 1, .inl (g.2 0, 8, .inl (f 1))), (a 2, .inl (g.2 0, 8, .inl (f 2))), (a 3, .inl (g.2 0, 8, .inl (f 3))), (a 4, .inl (g.2 1, 8, .inl (f 4))), (a 5, .inl (g.2 0, 64, .inl (f 5))), (a 6, .inl (g.2 0, 6, .inl (f 6))), (a 7, .inl (g.2 0, 6, .inl (f 7))), (a 8, .inl (g.2 0, 6, .inl (f 8))), (a 9, .inl (g.2 0, 6, .inl (f 9))), (a 10, .inl (g.2 0, 8, .inl (f 10)))], bTown g o2 a2 pe2 wo2 tx2 ch2 jo2 tr2 dy2 sd2 f2]) := hD
  refine lv_aload_n hx hb dX9_copyFrom_79 rfl (lv_at hl 1 rfl) ?_
  refine va_get (D := g.1) (ci := 7) (v := .ref (a2 1)) (C := RX9) (T := TX9) (N := 19) hx hb hts izRX9 hown hK hP 12 rfl rfl 9 (by decide) (hts _ k10) (fun _ h9 => h9) rfl dX9_copyFrom_80 ?_
  refine lv_iconst (v := 0) hx hb dX9_copyFrom_83 (by decide) ?_
  refine lv_aload_n hx hb dX9_copyFrom_84 rfl (lv_at hl 0 rfl) ?_
  refine va_get (D := g.1) (ci := 7) (v := .ref (a 1)) (C := RX9) (T := TX9) (N := 19) hx hb hts izRX9 hown hK hP 0 rfl rfl 9 (by decide) (hts _ k10) (fun _ h9 => h9) rfl dX9_copyFrom_85 ?_
  refine lv_iconst (v := 0) hx hb dX9_copyFrom_88 (by decide) ?_
  refine lv_bipush (v := 8) hx hb dX9_copyFrom_89 (by decide) ?_
  refine va_copyi (D := g.1) (ty := .int) hx hb (by rw [hml]; exact hl.1.symm) hown (hts _ k35) (hts _ k36) (hts _ k37) (hts _ k38) hK hP hD hS 14 2 0 0 rfl rfl rfl rfl rfl (by decide) (by decide) (by decide) (by decide) (by decide) (fun _ _ => rfl) (Nat.le_of_ble_eq_true rfl) (by decide) dX9_copyFrom_91 (fun H locs hP hD hS => ?_)
  have hP : va_P g.1 vwCl (List.flatten [[(o, .inr (7, [.int pe2, .int wo2, .int tx2, .int ch2, .int jo2, .int tr2, .int dy2, .int sd2, .ref (a 0), .ref (a 1), .ref (a 2), .ref (a 3), .ref (a 4), .ref (a 5), .ref (a 6), .ref (a 7), .ref (a 8), .ref (a 9), .ref (a 10)])), (a 0, .inl (g.2 0, 8, .inl (va_cpy (f2 0) (f 0) 0 0 8))), (a 1, .inl (g.2 0, 8, .inl (va_cpy (f2 1) (f 1) 0 0 8))), (a 2, .inl (g.2 0, 8, .inl (f 2))), (a 3, .inl (g.2 0, 8, .inl (f 3))), (a 4, .inl (g.2 1, 8, .inl (f 4))), (a 5, .inl (g.2 0, 64, .inl (f 5))), (a 6, .inl (g.2 0, 6, .inl (f 6))), (a 7, .inl (g.2 0, 6, .inl (f 7))), (a 8, .inl (g.2 0, 6, .inl (f 8))), (a 9, .inl (g.2 0, 6, .inl (f 9))), (a 10, .inl (g.2 0, 8, .inl (f 10)))], bTown g o2 a2 pe2 wo2 tx2 ch2 jo2 tr2 dy2 sd2 f2]) H := hP
  have hD : va_D A (List.flatten [[(o, .inr (7, [.int pe2, .int wo2, .int tx2, .int ch2, .int jo2, .int tr2, .int dy2, .int sd2, .ref (a 0), .ref (a 1), .ref (a 2), .ref (a 3), .ref (a 4), .ref (a 5), .ref (a 6), .ref (a 7), .ref (a 8), .ref (a 9), .ref (a 10)])), (a 0, .inl (g.2 0, 8, .inl (va_cpy (f2 0) (f 0) 0 0 8))), (a 1, .inl (g.2 0, 8, .inl (va_cpy (f2 1) (f 1) 0 0 8))), (a 2, .inl (g.2 0, 8, .inl (f 2))), (a 3, .inl (g.2 0, 8, .inl (f 3))), (a 4, .inl (g.2 1, 8, .inl (f 4))), (a 5, .inl (g.2 0, 64, .inl (f 5))), (a 6, .inl (g.2 0, 6, .inl (f 6))), (a 7, .inl (g.2 0, 6, .inl (f 7))), (a 8, .inl (g.2 0, 6, .inl (f 8))), (a 9, .inl (g.2 0, 6, .inl (f 9))), (a 10, .inl (g.2 0, 8, .inl (f 10)))], bTown g o2 a2 pe2 wo2 tx2 ch2 jo2 tr2 dy2 sd2 f2]) := hD
  refine lv_aload_n hx hb dX9_copyFrom_94 rfl (lv_at hl 1 rfl) ?_
  refine va_get (D := g.1) (ci := 7) (v := .ref (a2 2)) (C := RX9) (T := TX9) (N := 19) hx hb hts izRX9 hown hK hP 12 rfl rfl 10 (by decide) (hts _ k11) (fun _ h9 => h9) rfl dX9_copyFrom_95 ?_
  refine lv_iconst (v := 0) hx hb dX9_copyFrom_98 (by decide) ?_
  refine lv_aload_n hx hb dX9_copyFrom_99 rfl (lv_at hl 0 rfl) ?_
  refine va_get (D := g.1) (ci := 7) (v := .ref (a 2)) (C := RX9) (T := TX9) (N := 19) hx hb hts izRX9 hown hK hP 0 rfl rfl 10 (by decide) (hts _ k11) (fun _ h9 => h9) rfl dX9_copyFrom_100 ?_
  refine lv_iconst (v := 0) hx hb dX9_copyFrom_103 (by decide) ?_
  refine lv_bipush (v := 8) hx hb dX9_copyFrom_104 (by decide) ?_
  refine va_copyi (D := g.1) (ty := .int) hx hb (by rw [hml]; exact hl.1.symm) hown (hts _ k35) (hts _ k36) (hts _ k37) (hts _ k38) hK hP hD hS 15 3 0 0 rfl rfl rfl rfl rfl (by decide) (by decide) (by decide) (by decide) (by decide) (fun _ _ => rfl) (Nat.le_of_ble_eq_true rfl) (by decide) dX9_copyFrom_106 (fun H locs hP hD hS => ?_)
  have hP : va_P g.1 vwCl (List.flatten [[(o, .inr (7, [.int pe2, .int wo2, .int tx2, .int ch2, .int jo2, .int tr2, .int dy2, .int sd2, .ref (a 0), .ref (a 1), .ref (a 2), .ref (a 3), .ref (a 4), .ref (a 5), .ref (a 6), .ref (a 7), .ref (a 8), .ref (a 9), .ref (a 10)])), (a 0, .inl (g.2 0, 8, .inl (va_cpy (f2 0) (f 0) 0 0 8))), (a 1, .inl (g.2 0, 8, .inl (va_cpy (f2 1) (f 1) 0 0 8))), (a 2, .inl (g.2 0, 8, .inl (va_cpy (f2 2) (f 2) 0 0 8))), (a 3, .inl (g.2 0, 8, .inl (f 3))), (a 4, .inl (g.2 1, 8, .inl (f 4))), (a 5, .inl (g.2 0, 64, .inl (f 5))), (a 6, .inl (g.2 0, 6, .inl (f 6))), (a 7, .inl (g.2 0, 6, .inl (f 7))), (a 8, .inl (g.2 0, 6, .inl (f 8))), (a 9, .inl (g.2 0, 6, .inl (f 9))), (a 10, .inl (g.2 0, 8, .inl (f 10)))], bTown g o2 a2 pe2 wo2 tx2 ch2 jo2 tr2 dy2 sd2 f2]) H := hP
  have hD : va_D A (List.flatten [[(o, .inr (7, [.int pe2, .int wo2, .int tx2, .int ch2, .int jo2, .int tr2, .int dy2, .int sd2, .ref (a 0), .ref (a 1), .ref (a 2), .ref (a 3), .ref (a 4), .ref (a 5), .ref (a 6), .ref (a 7), .ref (a 8), .ref (a 9), .ref (a 10)])), (a 0, .inl (g.2 0, 8, .inl (va_cpy (f2 0) (f 0) 0 0 8))), (a 1, .inl (g.2 0, 8, .inl (va_cpy (f2 1) (f 1) 0 0 8))), (a 2, .inl (g.2 0, 8, .inl (va_cpy (f2 2) (f 2) 0 0 8))), (a 3, .inl (g.2 0, 8, .inl (f 3))), (a 4, .inl (g.2 1, 8, .inl (f 4))), (a 5, .inl (g.2 0, 64, .inl (f 5))), (a 6, .inl (g.2 0, 6, .inl (f 6))), (a 7, .inl (g.2 0, 6, .inl (f 7))), (a 8, .inl (g.2 0, 6, .inl (f 8))), (a 9, .inl (g.2 0, 6, .inl (f 9))), (a 10, .inl (g.2 0, 8, .inl (f 10)))], bTown g o2 a2 pe2 wo2 tx2 ch2 jo2 tr2 dy2 sd2 f2]) := hD
  refine lv_aload_n hx hb dX9_copyFrom_109 rfl (lv_at hl 1 rfl) ?_
  refine va_get (D := g.1) (ci := 7) (v := .ref (a2 3)) (C := RX9) (T := TX9) (N := 19) hx hb hts izRX9 hown hK hP 12 rfl rfl 11 (by decide) (hts _ k12) (fun _ h9 => h9) rfl dX9_copyFrom_110 ?_
  refine lv_iconst (v := 0) hx hb dX9_copyFrom_113 (by decide) ?_
  refine lv_aload_n hx hb dX9_copyFrom_114 rfl (lv_at hl 0 rfl) ?_
  refine va_get (D := g.1) (ci := 7) (v := .ref (a 3)) (C := RX9) (T := TX9) (N := 19) hx hb hts izRX9 hown hK hP 0 rfl rfl 11 (by decide) (hts _ k12) (fun _ h9 => h9) rfl dX9_copyFrom_115 ?_
  refine lv_iconst (v := 0) hx hb dX9_copyFrom_118 (by decide) ?_
  refine lv_bipush (v := 8) hx hb dX9_copyFrom_119 (by decide) ?_
  refine va_copyi (D := g.1) (ty := .int) hx hb (by rw [hml]; exact hl.1.symm) hown (hts _ k35) (hts _ k36) (hts _ k37) (hts _ k38) hK hP hD hS 16 4 0 0 rfl rfl rfl rfl rfl (by decide) (by decide) (by decide) (by decide) (by decide) (fun _ _ => rfl) (Nat.le_of_ble_eq_true rfl) (by decide) dX9_copyFrom_121 (fun H locs hP hD hS => ?_)
  have hP : va_P g.1 vwCl (List.flatten [[(o, .inr (7, [.int pe2, .int wo2, .int tx2, .int ch2, .int jo2, .int tr2, .int dy2, .int sd2, .ref (a 0), .ref (a 1), .ref (a 2), .ref (a 3), .ref (a 4), .ref (a 5), .ref (a 6), .ref (a 7), .ref (a 8), .ref (a 9), .ref (a 10)])), (a 0, .inl (g.2 0, 8, .inl (va_cpy (f2 0) (f 0) 0 0 8))), (a 1, .inl (g.2 0, 8, .inl (va_cpy (f2 1) (f 1) 0 0 8))), (a 2, .inl (g.2 0, 8, .inl (va_cpy (f2 2) (f 2) 0 0 8))), (a 3, .inl (g.2 0, 8, .inl (va_cpy (f2 3) (f 3) 0 0 8))), (a 4, .inl (g.2 1, 8, .inl (f 4))), (a 5, .inl (g.2 0, 64, .inl (f 5))), (a 6, .inl (g.2 0, 6, .inl (f 6))), (a 7, .inl (g.2 0, 6, .inl (f 7))), (a 8, .inl (g.2 0, 6, .inl (f 8))), (a 9, .inl (g.2 0, 6, .inl (f 9))), (a 10, .inl (g.2 0, 8, .inl (f 10)))], bTown g o2 a2 pe2 wo2 tx2 ch2 jo2 tr2 dy2 sd2 f2]) H := hP
  have hD : va_D A (List.flatten [[(o, .inr (7, [.int pe2, .int wo2, .int tx2, .int ch2, .int jo2, .int tr2, .int dy2, .int sd2, .ref (a 0), .ref (a 1), .ref (a 2), .ref (a 3), .ref (a 4), .ref (a 5), .ref (a 6), .ref (a 7), .ref (a 8), .ref (a 9), .ref (a 10)])), (a 0, .inl (g.2 0, 8, .inl (va_cpy (f2 0) (f 0) 0 0 8))), (a 1, .inl (g.2 0, 8, .inl (va_cpy (f2 1) (f 1) 0 0 8))), (a 2, .inl (g.2 0, 8, .inl (va_cpy (f2 2) (f 2) 0 0 8))), (a 3, .inl (g.2 0, 8, .inl (va_cpy (f2 3) (f 3) 0 0 8))), (a 4, .inl (g.2 1, 8, .inl (f 4))), (a 5, .inl (g.2 0, 64, .inl (f 5))), (a 6, .inl (g.2 0, 6, .inl (f 6))), (a 7, .inl (g.2 0, 6, .inl (f 7))), (a 8, .inl (g.2 0, 6, .inl (f 8))), (a 9, .inl (g.2 0, 6, .inl (f 9))), (a 10, .inl (g.2 0, 8, .inl (f 10)))], bTown g o2 a2 pe2 wo2 tx2 ch2 jo2 tr2 dy2 sd2 f2]) := hD
  refine lv_aload_n hx hb dX9_copyFrom_124 rfl (lv_at hl 1 rfl) ?_
  refine va_get (D := g.1) (ci := 7) (v := .ref (a2 4)) (C := RX9) (T := TX9) (N := 19) hx hb hts izRX9 hown hK hP 12 rfl rfl 12 (by decide) (hts _ k14) (fun _ h9 => h9) rfl dX9_copyFrom_125 ?_
  refine lv_iconst (v := 0) hx hb dX9_copyFrom_128 (by decide) ?_
  refine lv_aload_n hx hb dX9_copyFrom_129 rfl (lv_at hl 0 rfl) ?_
  refine va_get (D := g.1) (ci := 7) (v := .ref (a 4)) (C := RX9) (T := TX9) (N := 19) hx hb hts izRX9 hown hK hP 0 rfl rfl 12 (by decide) (hts _ k14) (fun _ h9 => h9) rfl dX9_copyFrom_130 ?_
  refine lv_iconst (v := 0) hx hb dX9_copyFrom_133 (by decide) ?_
  refine lv_bipush (v := 8) hx hb dX9_copyFrom_134 (by decide) ?_
  refine va_copyi (D := g.1) (ty := .boolean) hx hb (by rw [hml]; exact hl.1.symm) hown (hts _ k35) (hts _ k36) (hts _ k37) (hts _ k38) hK hP hD hS 17 5 1 1 rfl rfl rfl rfl rfl (by decide) (by decide) (by decide) (by decide) (by decide) (zZs hz) (Nat.le_of_ble_eq_true rfl) (by decide) dX9_copyFrom_136 (fun H locs hP hD hS => ?_)
  have hP : va_P g.1 vwCl (List.flatten [[(o, .inr (7, [.int pe2, .int wo2, .int tx2, .int ch2, .int jo2, .int tr2, .int dy2, .int sd2, .ref (a 0), .ref (a 1), .ref (a 2), .ref (a 3), .ref (a 4), .ref (a 5), .ref (a 6), .ref (a 7), .ref (a 8), .ref (a 9), .ref (a 10)])), (a 0, .inl (g.2 0, 8, .inl (va_cpy (f2 0) (f 0) 0 0 8))), (a 1, .inl (g.2 0, 8, .inl (va_cpy (f2 1) (f 1) 0 0 8))), (a 2, .inl (g.2 0, 8, .inl (va_cpy (f2 2) (f 2) 0 0 8))), (a 3, .inl (g.2 0, 8, .inl (va_cpy (f2 3) (f 3) 0 0 8))), (a 4, .inl (g.2 1, 8, .inl (va_cpy (f2 4) (f 4) 0 0 8))), (a 5, .inl (g.2 0, 64, .inl (f 5))), (a 6, .inl (g.2 0, 6, .inl (f 6))), (a 7, .inl (g.2 0, 6, .inl (f 7))), (a 8, .inl (g.2 0, 6, .inl (f 8))), (a 9, .inl (g.2 0, 6, .inl (f 9))), (a 10, .inl (g.2 0, 8, .inl (f 10)))], bTown g o2 a2 pe2 wo2 tx2 ch2 jo2 tr2 dy2 sd2 f2]) H := hP
  have hD : va_D A (List.flatten [[(o, .inr (7, [.int pe2, .int wo2, .int tx2, .int ch2, .int jo2, .int tr2, .int dy2, .int sd2, .ref (a 0), .ref (a 1), .ref (a 2), .ref (a 3), .ref (a 4), .ref (a 5), .ref (a 6), .ref (a 7), .ref (a 8), .ref (a 9), .ref (a 10)])), (a 0, .inl (g.2 0, 8, .inl (va_cpy (f2 0) (f 0) 0 0 8))), (a 1, .inl (g.2 0, 8, .inl (va_cpy (f2 1) (f 1) 0 0 8))), (a 2, .inl (g.2 0, 8, .inl (va_cpy (f2 2) (f 2) 0 0 8))), (a 3, .inl (g.2 0, 8, .inl (va_cpy (f2 3) (f 3) 0 0 8))), (a 4, .inl (g.2 1, 8, .inl (va_cpy (f2 4) (f 4) 0 0 8))), (a 5, .inl (g.2 0, 64, .inl (f 5))), (a 6, .inl (g.2 0, 6, .inl (f 6))), (a 7, .inl (g.2 0, 6, .inl (f 7))), (a 8, .inl (g.2 0, 6, .inl (f 8))), (a 9, .inl (g.2 0, 6, .inl (f 9))), (a 10, .inl (g.2 0, 8, .inl (f 10)))], bTown g o2 a2 pe2 wo2 tx2 ch2 jo2 tr2 dy2 sd2 f2]) := hD
  refine lv_aload_n hx hb dX9_copyFrom_139 rfl (lv_at hl 1 rfl) ?_
  refine va_get (D := g.1) (ci := 7) (v := .ref (a2 5)) (C := RX9) (T := TX9) (N := 19) hx hb hts izRX9 hown hK hP 12 rfl rfl 13 (by decide) (hts _ k15) (fun _ h9 => h9) rfl dX9_copyFrom_140 ?_
  refine lv_iconst (v := 0) hx hb dX9_copyFrom_143 (by decide) ?_
  refine lv_aload_n hx hb dX9_copyFrom_144 rfl (lv_at hl 0 rfl) ?_
  refine va_get (D := g.1) (ci := 7) (v := .ref (a 5)) (C := RX9) (T := TX9) (N := 19) hx hb hts izRX9 hown hK hP 0 rfl rfl 13 (by decide) (hts _ k15) (fun _ h9 => h9) rfl dX9_copyFrom_145 ?_
  refine lv_iconst (v := 0) hx hb dX9_copyFrom_148 (by decide) ?_
  refine lv_bipush (v := 64) hx hb dX9_copyFrom_149 (by decide) ?_
  refine va_copyi (D := g.1) (ty := .int) hx hb (by rw [hml]; exact hl.1.symm) hown (hts _ k35) (hts _ k36) (hts _ k37) (hts _ k38) hK hP hD hS 18 6 0 0 rfl rfl rfl rfl rfl (by decide) (by decide) (by decide) (by decide) (by decide) (fun _ _ => rfl) (Nat.le_of_ble_eq_true rfl) (by decide) dX9_copyFrom_151 (fun H locs hP hD hS => ?_)
  have hP : va_P g.1 vwCl (List.flatten [[(o, .inr (7, [.int pe2, .int wo2, .int tx2, .int ch2, .int jo2, .int tr2, .int dy2, .int sd2, .ref (a 0), .ref (a 1), .ref (a 2), .ref (a 3), .ref (a 4), .ref (a 5), .ref (a 6), .ref (a 7), .ref (a 8), .ref (a 9), .ref (a 10)])), (a 0, .inl (g.2 0, 8, .inl (va_cpy (f2 0) (f 0) 0 0 8))), (a 1, .inl (g.2 0, 8, .inl (va_cpy (f2 1) (f 1) 0 0 8))), (a 2, .inl (g.2 0, 8, .inl (va_cpy (f2 2) (f 2) 0 0 8))), (a 3, .inl (g.2 0, 8, .inl (va_cpy (f2 3) (f 3) 0 0 8))), (a 4, .inl (g.2 1, 8, .inl (va_cpy (f2 4) (f 4) 0 0 8))), (a 5, .inl (g.2 0, 64, .inl (va_cpy (f2 5) (f 5) 0 0 64))), (a 6, .inl (g.2 0, 6, .inl (f 6))), (a 7, .inl (g.2 0, 6, .inl (f 7))), (a 8, .inl (g.2 0, 6, .inl (f 8))), (a 9, .inl (g.2 0, 6, .inl (f 9))), (a 10, .inl (g.2 0, 8, .inl (f 10)))], bTown g o2 a2 pe2 wo2 tx2 ch2 jo2 tr2 dy2 sd2 f2]) H := hP
  have hD : va_D A (List.flatten [[(o, .inr (7, [.int pe2, .int wo2, .int tx2, .int ch2, .int jo2, .int tr2, .int dy2, .int sd2, .ref (a 0), .ref (a 1), .ref (a 2), .ref (a 3), .ref (a 4), .ref (a 5), .ref (a 6), .ref (a 7), .ref (a 8), .ref (a 9), .ref (a 10)])), (a 0, .inl (g.2 0, 8, .inl (va_cpy (f2 0) (f 0) 0 0 8))), (a 1, .inl (g.2 0, 8, .inl (va_cpy (f2 1) (f 1) 0 0 8))), (a 2, .inl (g.2 0, 8, .inl (va_cpy (f2 2) (f 2) 0 0 8))), (a 3, .inl (g.2 0, 8, .inl (va_cpy (f2 3) (f 3) 0 0 8))), (a 4, .inl (g.2 1, 8, .inl (va_cpy (f2 4) (f 4) 0 0 8))), (a 5, .inl (g.2 0, 64, .inl (va_cpy (f2 5) (f 5) 0 0 64))), (a 6, .inl (g.2 0, 6, .inl (f 6))), (a 7, .inl (g.2 0, 6, .inl (f 7))), (a 8, .inl (g.2 0, 6, .inl (f 8))), (a 9, .inl (g.2 0, 6, .inl (f 9))), (a 10, .inl (g.2 0, 8, .inl (f 10)))], bTown g o2 a2 pe2 wo2 tx2 ch2 jo2 tr2 dy2 sd2 f2]) := hD
  refine lv_aload_n hx hb dX9_copyFrom_154 rfl (lv_at hl 1 rfl) ?_
  refine va_get (D := g.1) (ci := 7) (v := .ref (a2 6)) (C := RX9) (T := TX9) (N := 19) hx hb hts izRX9 hown hK hP 12 rfl rfl 14 (by decide) (hts _ k16) (fun _ h9 => h9) rfl dX9_copyFrom_155 ?_
  refine lv_iconst (v := 0) hx hb dX9_copyFrom_158 (by decide) ?_
  refine lv_aload_n hx hb dX9_copyFrom_159 rfl (lv_at hl 0 rfl) ?_
  refine va_get (D := g.1) (ci := 7) (v := .ref (a 6)) (C := RX9) (T := TX9) (N := 19) hx hb hts izRX9 hown hK hP 0 rfl rfl 14 (by decide) (hts _ k16) (fun _ h9 => h9) rfl dX9_copyFrom_160 ?_
  refine lv_iconst (v := 0) hx hb dX9_copyFrom_163 (by decide) ?_
  refine lv_bipush (v := 6) hx hb dX9_copyFrom_164 (by decide) ?_
  refine va_copyi (D := g.1) (ty := .int) hx hb (by rw [hml]; exact hl.1.symm) hown (hts _ k35) (hts _ k36) (hts _ k37) (hts _ k38) hK hP hD hS 19 7 0 0 rfl rfl rfl rfl rfl (by decide) (by decide) (by decide) (by decide) (by decide) (fun _ _ => rfl) (Nat.le_of_ble_eq_true rfl) (by decide) dX9_copyFrom_166 (fun H locs hP hD hS => ?_)
  have hP : va_P g.1 vwCl (List.flatten [[(o, .inr (7, [.int pe2, .int wo2, .int tx2, .int ch2, .int jo2, .int tr2, .int dy2, .int sd2, .ref (a 0), .ref (a 1), .ref (a 2), .ref (a 3), .ref (a 4), .ref (a 5), .ref (a 6), .ref (a 7), .ref (a 8), .ref (a 9), .ref (a 10)])), (a 0, .inl (g.2 0, 8, .inl (va_cpy (f2 0) (f 0) 0 0 8))), (a 1, .inl (g.2 0, 8, .inl (va_cpy (f2 1) (f 1) 0 0 8))), (a 2, .inl (g.2 0, 8, .inl (va_cpy (f2 2) (f 2) 0 0 8))), (a 3, .inl (g.2 0, 8, .inl (va_cpy (f2 3) (f 3) 0 0 8))), (a 4, .inl (g.2 1, 8, .inl (va_cpy (f2 4) (f 4) 0 0 8))), (a 5, .inl (g.2 0, 64, .inl (va_cpy (f2 5) (f 5) 0 0 64))), (a 6, .inl (g.2 0, 6, .inl (va_cpy (f2 6) (f 6) 0 0 6))), (a 7, .inl (g.2 0, 6, .inl (f 7))), (a 8, .inl (g.2 0, 6, .inl (f 8))), (a 9, .inl (g.2 0, 6, .inl (f 9))), (a 10, .inl (g.2 0, 8, .inl (f 10)))], bTown g o2 a2 pe2 wo2 tx2 ch2 jo2 tr2 dy2 sd2 f2]) H := hP
  have hD : va_D A (List.flatten [[(o, .inr (7, [.int pe2, .int wo2, .int tx2, .int ch2, .int jo2, .int tr2, .int dy2, .int sd2, .ref (a 0), .ref (a 1), .ref (a 2), .ref (a 3), .ref (a 4), .ref (a 5), .ref (a 6), .ref (a 7), .ref (a 8), .ref (a 9), .ref (a 10)])), (a 0, .inl (g.2 0, 8, .inl (va_cpy (f2 0) (f 0) 0 0 8))), (a 1, .inl (g.2 0, 8, .inl (va_cpy (f2 1) (f 1) 0 0 8))), (a 2, .inl (g.2 0, 8, .inl (va_cpy (f2 2) (f 2) 0 0 8))), (a 3, .inl (g.2 0, 8, .inl (va_cpy (f2 3) (f 3) 0 0 8))), (a 4, .inl (g.2 1, 8, .inl (va_cpy (f2 4) (f 4) 0 0 8))), (a 5, .inl (g.2 0, 64, .inl (va_cpy (f2 5) (f 5) 0 0 64))), (a 6, .inl (g.2 0, 6, .inl (va_cpy (f2 6) (f 6) 0 0 6))), (a 7, .inl (g.2 0, 6, .inl (f 7))), (a 8, .inl (g.2 0, 6, .inl (f 8))), (a 9, .inl (g.2 0, 6, .inl (f 9))), (a 10, .inl (g.2 0, 8, .inl (f 10)))], bTown g o2 a2 pe2 wo2 tx2 ch2 jo2 tr2 dy2 sd2 f2]) := hD
  refine lv_aload_n hx hb dX9_copyFrom_169 rfl (lv_at hl 1 rfl) ?_
  refine va_get (D := g.1) (ci := 7) (v := .ref (a2 7)) (C := RX9) (T := TX9) (N := 19) hx hb hts izRX9 hown hK hP 12 rfl rfl 15 (by decide) (hts _ k17) (fun _ h9 => h9) rfl dX9_copyFrom_170 ?_
  refine lv_iconst (v := 0) hx hb dX9_copyFrom_173 (by decide) ?_
  refine lv_aload_n hx hb dX9_copyFrom_174 rfl (lv_at hl 0 rfl) ?_
  refine va_get (D := g.1) (ci := 7) (v := .ref (a 7)) (C := RX9) (T := TX9) (N := 19) hx hb hts izRX9 hown hK hP 0 rfl rfl 15 (by decide) (hts _ k17) (fun _ h9 => h9) rfl dX9_copyFrom_175 ?_
  refine lv_iconst (v := 0) hx hb dX9_copyFrom_178 (by decide) ?_
  refine lv_bipush (v := 6) hx hb dX9_copyFrom_179 (by decide) ?_
  refine va_copyi (D := g.1) (ty := .int) hx hb (by rw [hml]; exact hl.1.symm) hown (hts _ k35) (hts _ k36) (hts _ k37) (hts _ k38) hK hP hD hS 20 8 0 0 rfl rfl rfl rfl rfl (by decide) (by decide) (by decide) (by decide) (by decide) (fun _ _ => rfl) (Nat.le_of_ble_eq_true rfl) (by decide) dX9_copyFrom_181 (fun H locs hP hD hS => ?_)
  have hP : va_P g.1 vwCl (List.flatten [[(o, .inr (7, [.int pe2, .int wo2, .int tx2, .int ch2, .int jo2, .int tr2, .int dy2, .int sd2, .ref (a 0), .ref (a 1), .ref (a 2), .ref (a 3), .ref (a 4), .ref (a 5), .ref (a 6), .ref (a 7), .ref (a 8), .ref (a 9), .ref (a 10)])), (a 0, .inl (g.2 0, 8, .inl (va_cpy (f2 0) (f 0) 0 0 8))), (a 1, .inl (g.2 0, 8, .inl (va_cpy (f2 1) (f 1) 0 0 8))), (a 2, .inl (g.2 0, 8, .inl (va_cpy (f2 2) (f 2) 0 0 8))), (a 3, .inl (g.2 0, 8, .inl (va_cpy (f2 3) (f 3) 0 0 8))), (a 4, .inl (g.2 1, 8, .inl (va_cpy (f2 4) (f 4) 0 0 8))), (a 5, .inl (g.2 0, 64, .inl (va_cpy (f2 5) (f 5) 0 0 64))), (a 6, .inl (g.2 0, 6, .inl (va_cpy (f2 6) (f 6) 0 0 6))), (a 7, .inl (g.2 0, 6, .inl (va_cpy (f2 7) (f 7) 0 0 6))), (a 8, .inl (g.2 0, 6, .inl (f 8))), (a 9, .inl (g.2 0, 6, .inl (f 9))), (a 10, .inl (g.2 0, 8, .inl (f 10)))], bTown g o2 a2 pe2 wo2 tx2 ch2 jo2 tr2 dy2 sd2 f2]) H := hP
  have hD : va_D A (List.flatten [[(o, .inr (7, [.int pe2, .int wo2, .int tx2, .int ch2, .int jo2, .int tr2, .int dy2, .int sd2, .ref (a 0), .ref (a 1), .ref (a 2), .ref (a 3), .ref (a 4), .ref (a 5), .ref (a 6), .ref (a 7), .ref (a 8), .ref (a 9), .ref (a 10)])), (a 0, .inl (g.2 0, 8, .inl (va_cpy (f2 0) (f 0) 0 0 8))), (a 1, .inl (g.2 0, 8, .inl (va_cpy (f2 1) (f 1) 0 0 8))), (a 2, .inl (g.2 0, 8, .inl (va_cpy (f2 2) (f 2) 0 0 8))), (a 3, .inl (g.2 0, 8, .inl (va_cpy (f2 3) (f 3) 0 0 8))), (a 4, .inl (g.2 1, 8, .inl (va_cpy (f2 4) (f 4) 0 0 8))), (a 5, .inl (g.2 0, 64, .inl (va_cpy (f2 5) (f 5) 0 0 64))), (a 6, .inl (g.2 0, 6, .inl (va_cpy (f2 6) (f 6) 0 0 6))), (a 7, .inl (g.2 0, 6, .inl (va_cpy (f2 7) (f 7) 0 0 6))), (a 8, .inl (g.2 0, 6, .inl (f 8))), (a 9, .inl (g.2 0, 6, .inl (f 9))), (a 10, .inl (g.2 0, 8, .inl (f 10)))], bTown g o2 a2 pe2 wo2 tx2 ch2 jo2 tr2 dy2 sd2 f2]) := hD
  refine lv_aload_n hx hb dX9_copyFrom_184 rfl (lv_at hl 1 rfl) ?_
  refine va_get (D := g.1) (ci := 7) (v := .ref (a2 8)) (C := RX9) (T := TX9) (N := 19) hx hb hts izRX9 hown hK hP 12 rfl rfl 16 (by decide) (hts _ k18) (fun _ h9 => h9) rfl dX9_copyFrom_185 ?_
  refine lv_iconst (v := 0) hx hb dX9_copyFrom_188 (by decide) ?_
  refine lv_aload_n hx hb dX9_copyFrom_189 rfl (lv_at hl 0 rfl) ?_
  refine va_get (D := g.1) (ci := 7) (v := .ref (a 8)) (C := RX9) (T := TX9) (N := 19) hx hb hts izRX9 hown hK hP 0 rfl rfl 16 (by decide) (hts _ k18) (fun _ h9 => h9) rfl dX9_copyFrom_190 ?_
  refine lv_iconst (v := 0) hx hb dX9_copyFrom_193 (by decide) ?_
  refine lv_bipush (v := 6) hx hb dX9_copyFrom_194 (by decide) ?_
  refine va_copyi (D := g.1) (ty := .int) hx hb (by rw [hml]; exact hl.1.symm) hown (hts _ k35) (hts _ k36) (hts _ k37) (hts _ k38) hK hP hD hS 21 9 0 0 rfl rfl rfl rfl rfl (by decide) (by decide) (by decide) (by decide) (by decide) (fun _ _ => rfl) (Nat.le_of_ble_eq_true rfl) (by decide) dX9_copyFrom_196 (fun H locs hP hD hS => ?_)
  have hP : va_P g.1 vwCl (List.flatten [[(o, .inr (7, [.int pe2, .int wo2, .int tx2, .int ch2, .int jo2, .int tr2, .int dy2, .int sd2, .ref (a 0), .ref (a 1), .ref (a 2), .ref (a 3), .ref (a 4), .ref (a 5), .ref (a 6), .ref (a 7), .ref (a 8), .ref (a 9), .ref (a 10)])), (a 0, .inl (g.2 0, 8, .inl (va_cpy (f2 0) (f 0) 0 0 8))), (a 1, .inl (g.2 0, 8, .inl (va_cpy (f2 1) (f 1) 0 0 8))), (a 2, .inl (g.2 0, 8, .inl (va_cpy (f2 2) (f 2) 0 0 8))), (a 3, .inl (g.2 0, 8, .inl (va_cpy (f2 3) (f 3) 0 0 8))), (a 4, .inl (g.2 1, 8, .inl (va_cpy (f2 4) (f 4) 0 0 8))), (a 5, .inl (g.2 0, 64, .inl (va_cpy (f2 5) (f 5) 0 0 64))), (a 6, .inl (g.2 0, 6, .inl (va_cpy (f2 6) (f 6) 0 0 6))), (a 7, .inl (g.2 0, 6, .inl (va_cpy (f2 7) (f 7) 0 0 6))), (a 8, .inl (g.2 0, 6, .inl (va_cpy (f2 8) (f 8) 0 0 6))), (a 9, .inl (g.2 0, 6, .inl (f 9))), (a 10, .inl (g.2 0, 8, .inl (f 10)))], bTown g o2 a2 pe2 wo2 tx2 ch2 jo2 tr2 dy2 sd2 f2]) H := hP
  have hD : va_D A (List.flatten [[(o, .inr (7, [.int pe2, .int wo2, .int tx2, .int ch2, .int jo2, .int tr2, .int dy2, .int sd2, .ref (a 0), .ref (a 1), .ref (a 2), .ref (a 3), .ref (a 4), .ref (a 5), .ref (a 6), .ref (a 7), .ref (a 8), .ref (a 9), .ref (a 10)])), (a 0, .inl (g.2 0, 8, .inl (va_cpy (f2 0) (f 0) 0 0 8))), (a 1, .inl (g.2 0, 8, .inl (va_cpy (f2 1) (f 1) 0 0 8))), (a 2, .inl (g.2 0, 8, .inl (va_cpy (f2 2) (f 2) 0 0 8))), (a 3, .inl (g.2 0, 8, .inl (va_cpy (f2 3) (f 3) 0 0 8))), (a 4, .inl (g.2 1, 8, .inl (va_cpy (f2 4) (f 4) 0 0 8))), (a 5, .inl (g.2 0, 64, .inl (va_cpy (f2 5) (f 5) 0 0 64))), (a 6, .inl (g.2 0, 6, .inl (va_cpy (f2 6) (f 6) 0 0 6))), (a 7, .inl (g.2 0, 6, .inl (va_cpy (f2 7) (f 7) 0 0 6))), (a 8, .inl (g.2 0, 6, .inl (va_cpy (f2 8) (f 8) 0 0 6))), (a 9, .inl (g.2 0, 6, .inl (f 9))), (a 10, .inl (g.2 0, 8, .inl (f 10)))], bTown g o2 a2 pe2 wo2 tx2 ch2 jo2 tr2 dy2 sd2 f2]) := hD
  refine lv_aload_n hx hb dX9_copyFrom_199 rfl (lv_at hl 1 rfl) ?_
  refine va_get (D := g.1) (ci := 7) (v := .ref (a2 9)) (C := RX9) (T := TX9) (N := 19) hx hb hts izRX9 hown hK hP 12 rfl rfl 17 (by decide) (hts _ k19) (fun _ h9 => h9) rfl dX9_copyFrom_200 ?_
  refine lv_iconst (v := 0) hx hb dX9_copyFrom_203 (by decide) ?_
  refine lv_aload_n hx hb dX9_copyFrom_204 rfl (lv_at hl 0 rfl) ?_
  refine va_get (D := g.1) (ci := 7) (v := .ref (a 9)) (C := RX9) (T := TX9) (N := 19) hx hb hts izRX9 hown hK hP 0 rfl rfl 17 (by decide) (hts _ k19) (fun _ h9 => h9) rfl dX9_copyFrom_205 ?_
  refine lv_iconst (v := 0) hx hb dX9_copyFrom_208 (by decide) ?_
  refine lv_bipush (v := 6) hx hb dX9_copyFrom_209 (by decide) ?_
  refine va_copyi (D := g.1) (ty := .int) hx hb (by rw [hml]; exact hl.1.symm) hown (hts _ k35) (hts _ k36) (hts _ k37) (hts _ k38) hK hP hD hS 22 10 0 0 rfl rfl rfl rfl rfl (by decide) (by decide) (by decide) (by decide) (by decide) (fun _ _ => rfl) (Nat.le_of_ble_eq_true rfl) (by decide) dX9_copyFrom_211 (fun H locs hP hD hS => ?_)
  have hP : va_P g.1 vwCl (List.flatten [[(o, .inr (7, [.int pe2, .int wo2, .int tx2, .int ch2, .int jo2, .int tr2, .int dy2, .int sd2, .ref (a 0), .ref (a 1), .ref (a 2), .ref (a 3), .ref (a 4), .ref (a 5), .ref (a 6), .ref (a 7), .ref (a 8), .ref (a 9), .ref (a 10)])), (a 0, .inl (g.2 0, 8, .inl (va_cpy (f2 0) (f 0) 0 0 8))), (a 1, .inl (g.2 0, 8, .inl (va_cpy (f2 1) (f 1) 0 0 8))), (a 2, .inl (g.2 0, 8, .inl (va_cpy (f2 2) (f 2) 0 0 8))), (a 3, .inl (g.2 0, 8, .inl (va_cpy (f2 3) (f 3) 0 0 8))), (a 4, .inl (g.2 1, 8, .inl (va_cpy (f2 4) (f 4) 0 0 8))), (a 5, .inl (g.2 0, 64, .inl (va_cpy (f2 5) (f 5) 0 0 64))), (a 6, .inl (g.2 0, 6, .inl (va_cpy (f2 6) (f 6) 0 0 6))), (a 7, .inl (g.2 0, 6, .inl (va_cpy (f2 7) (f 7) 0 0 6))), (a 8, .inl (g.2 0, 6, .inl (va_cpy (f2 8) (f 8) 0 0 6))), (a 9, .inl (g.2 0, 6, .inl (va_cpy (f2 9) (f 9) 0 0 6))), (a 10, .inl (g.2 0, 8, .inl (f 10)))], bTown g o2 a2 pe2 wo2 tx2 ch2 jo2 tr2 dy2 sd2 f2]) H := hP
  have hD : va_D A (List.flatten [[(o, .inr (7, [.int pe2, .int wo2, .int tx2, .int ch2, .int jo2, .int tr2, .int dy2, .int sd2, .ref (a 0), .ref (a 1), .ref (a 2), .ref (a 3), .ref (a 4), .ref (a 5), .ref (a 6), .ref (a 7), .ref (a 8), .ref (a 9), .ref (a 10)])), (a 0, .inl (g.2 0, 8, .inl (va_cpy (f2 0) (f 0) 0 0 8))), (a 1, .inl (g.2 0, 8, .inl (va_cpy (f2 1) (f 1) 0 0 8))), (a 2, .inl (g.2 0, 8, .inl (va_cpy (f2 2) (f 2) 0 0 8))), (a 3, .inl (g.2 0, 8, .inl (va_cpy (f2 3) (f 3) 0 0 8))), (a 4, .inl (g.2 1, 8, .inl (va_cpy (f2 4) (f 4) 0 0 8))), (a 5, .inl (g.2 0, 64, .inl (va_cpy (f2 5) (f 5) 0 0 64))), (a 6, .inl (g.2 0, 6, .inl (va_cpy (f2 6) (f 6) 0 0 6))), (a 7, .inl (g.2 0, 6, .inl (va_cpy (f2 7) (f 7) 0 0 6))), (a 8, .inl (g.2 0, 6, .inl (va_cpy (f2 8) (f 8) 0 0 6))), (a 9, .inl (g.2 0, 6, .inl (va_cpy (f2 9) (f 9) 0 0 6))), (a 10, .inl (g.2 0, 8, .inl (f 10)))], bTown g o2 a2 pe2 wo2 tx2 ch2 jo2 tr2 dy2 sd2 f2]) := hD
  have hP : va_P g.1 vwCl (List.flatten [bTown g o a pe2 wo2 tx2 ch2 jo2 tr2 dy2 sd2 (zf [va_cpy (f2 0) (f 0) 0 0 8, va_cpy (f2 1) (f 1) 0 0 8, va_cpy (f2 2) (f 2) 0 0 8, va_cpy (f2 3) (f 3) 0 0 8, va_cpy (f2 4) (f 4) 0 0 8, va_cpy (f2 5) (f 5) 0 0 64, va_cpy (f2 6) (f 6) 0 0 6, va_cpy (f2 7) (f 7) 0 0 6, va_cpy (f2 8) (f 8) 0 0 6, va_cpy (f2 9) (f 9) 0 0 6, f 10]), bTown g o2 a2 pe2 wo2 tx2 ch2 jo2 tr2 dy2 sd2 f2]) H := hP
  have hD : va_D A (List.flatten [bTown g o a pe2 wo2 tx2 ch2 jo2 tr2 dy2 sd2 (zf [va_cpy (f2 0) (f 0) 0 0 8, va_cpy (f2 1) (f 1) 0 0 8, va_cpy (f2 2) (f 2) 0 0 8, va_cpy (f2 3) (f 3) 0 0 8, va_cpy (f2 4) (f 4) 0 0 8, va_cpy (f2 5) (f 5) 0 0 64, va_cpy (f2 6) (f 6) 0 0 6, va_cpy (f2 7) (f 7) 0 0 6, va_cpy (f2 8) (f 8) 0 0 6, va_cpy (f2 9) (f 9) 0 0 6, f 10]), bTown g o2 a2 pe2 wo2 tx2 ch2 jo2 tr2 dy2 sd2 f2]) := hD
  exact mret_v hx hb hr hlocks hS (Nat.le_of_ble_eq_true rfl) (Nat.le_of_ble_eq_true rfl) dX9_copyFrom_214 (zf [va_cpy (f2 0) (f 0) 0 0 8, va_cpy (f2 1) (f 1) 0 0 8, va_cpy (f2 2) (f 2) 0 0 8, va_cpy (f2 3) (f 3) 0 0 8, va_cpy (f2 4) (f 4) 0 0 8, va_cpy (f2 5) (f 5) 0 0 64, va_cpy (f2 6) (f 6) 0 0 6, va_cpy (f2 7) (f 7) 0 0 6, va_cpy (f2 8) (f 8) 0 0 6, va_cpy (f2 9) (f 9) 0 0 6, f 10]) rfl (zZc hz) hP hD
set_option maxRecDepth 100000 in
set_option maxHeartbeats 4000000 in
theorem c_Law_copyFrom (l : Launch) (g : zG) (lo : Nat) (ac : Nat) (ls0 : Int32) (ll : Int32) (lm : Int32) (lg : Int32) (ld : Int32) (fc : Nat → Int32) (lo2 : Nat) (ac2 : Nat) (ls02 : Int32) (ll2 : Int32) (lm2 : Int32) (lg2 : Int32) (ld2 : Int32) (fc2 : Nat → Int32)  : zM g l yX1_copyFrom (Cond.code yX1_copyFrom cX1_copyFrom 2 none :: zB) ({ frames := 1, cells := 0, slots := 0, locals := 40 } : Room) [.ref lo, .ref lo2] [bLaw g lo ac ls0 ll lm lg ld fc, bLaw g lo2 ac2 ls02 ll2 lm2 lg2 ld2 fc2] (fun (h : Nat → Int32) => none) (fun (h : Nat → Int32) => True) (fun (h : Nat → Int32) => [bLaw g lo ac ls02 ll2 lm lg ld h, bLaw g lo2 ac2 ls02 ll2 lm2 lg2 ld2 fc2]) := by
  refine zM.of (cc := cX1_copyFrom) (maxL := 2) (rt := none) (by decide) rfl (Nat.le_of_ble_eq_true rfl) ?_
  intro p e s m args below meth c A ls St hr hlocks hin hK hT hA hP hD hS hl
  obtain ⟨hx, hb, hml, hown, hts⟩ := id St
  have hl : lv_has ls 2 [(0, .ref lo), (1, .ref lo2)] := hl
  refine lv_aload_n hx hb dX1_copyFrom_0 rfl (lv_at hl 1 rfl) ?_
  refine va_get (D := g.1) (ci := 1) (v := .ref ac2) (C := RX1) (T := TX1) (N := 6) hx hb hts izRX1 hown hK hP 2 rfl rfl 0 (by decide) (hts _ k90) (fun _ h9 => h9) rfl dX1_copyFrom_1 ?_
  refine lv_iconst (v := 0) hx hb dX1_copyFrom_4 (by decide) ?_
  refine lv_aload_n hx hb dX1_copyFrom_5 rfl (lv_at hl 0 rfl) ?_
  refine va_get (D := g.1) (ci := 1) (v := .ref ac) (C := RX1) (T := TX1) (N := 6) hx hb hts izRX1 hown hK hP 0 rfl rfl 0 (by decide) (hts _ k90) (fun _ h9 => h9) rfl dX1_copyFrom_6 ?_
  refine lv_iconst (v := 0) hx hb dX1_copyFrom_9 (by decide) ?_
  refine lv_sipush (v := 400) hx hb dX1_copyFrom_10 (by decide) ?_
  refine va_copyi (D := g.1) (ty := .int) hx hb (by rw [hml]; exact hl.1.symm) hown (hts _ k199) (hts _ k36) (hts _ k37) (hts _ k38) hK hP hD hS 3 1 0 0 rfl rfl rfl rfl rfl (by decide) (by decide) (by decide) (by decide) (by decide) (fun _ _ => rfl) (Nat.le_of_ble_eq_true rfl) (by decide) dX1_copyFrom_13 (fun H locs hP hD hS => ?_)
  have hP : va_P g.1 vwCl (List.flatten [[(lo, .inr (1, [.ref ac, .int ls0, .int ll, .int lm, .int lg, .int ld])), (ac, .inl (g.2 0, 400, .inl (va_cpy fc2 fc 0 0 400)))], bLaw g lo2 ac2 ls02 ll2 lm2 lg2 ld2 fc2]) H := hP
  have hD : va_D A (List.flatten [[(lo, .inr (1, [.ref ac, .int ls0, .int ll, .int lm, .int lg, .int ld])), (ac, .inl (g.2 0, 400, .inl (va_cpy fc2 fc 0 0 400)))], bLaw g lo2 ac2 ls02 ll2 lm2 lg2 ld2 fc2]) := hD
  refine lv_aload_n hx hb dX1_copyFrom_16 rfl (lv_at hl 0 rfl) ?_
  refine lv_aload_n hx hb dX1_copyFrom_17 rfl (lv_at hl 1 rfl) ?_
  refine va_get (D := g.1) (ci := 1) (v := .int ls02) (C := RX1) (T := TX1) (N := 6) hx hb hts izRX1 hown hK hP 2 rfl rfl 1 (by decide) (hts _ k89) (fun _ h9 => h9) rfl dX1_copyFrom_18 ?_
  refine va_put (D := g.1) (ci := 1) (v := .int ls02) (ty := .int) (C := RX1) (T := TX1) (N := 6) hx hb hts izRX1 tyX1 tyX1_ok nmX1 hown hK hP hD hS 0 rfl rfl 1 (by decide) (hts _ k89) (fun _ h9 => h9) rfl (by decide +kernel) rfl rfl (Nat.le_of_ble_eq_true rfl) dX1_copyFrom_21 (fun H locs hP hD hS => ?_)
  have hP : va_P g.1 vwCl (List.flatten [[(lo, .inr (1, [.ref ac, .int ls02, .int ll, .int lm, .int lg, .int ld])), (ac, .inl (g.2 0, 400, .inl (va_cpy fc2 fc 0 0 400)))], bLaw g lo2 ac2 ls02 ll2 lm2 lg2 ld2 fc2]) H := hP
  have hD : va_D A (List.flatten [[(lo, .inr (1, [.ref ac, .int ls02, .int ll, .int lm, .int lg, .int ld])), (ac, .inl (g.2 0, 400, .inl (va_cpy fc2 fc 0 0 400)))], bLaw g lo2 ac2 ls02 ll2 lm2 lg2 ld2 fc2]) := hD
  refine lv_aload_n hx hb dX1_copyFrom_24 rfl (lv_at hl 0 rfl) ?_
  refine lv_aload_n hx hb dX1_copyFrom_25 rfl (lv_at hl 1 rfl) ?_
  refine va_get (D := g.1) (ci := 1) (v := .int ll2) (C := RX1) (T := TX1) (N := 6) hx hb hts izRX1 hown hK hP 2 rfl rfl 2 (by decide) (hts _ k87) (fun _ h9 => h9) rfl dX1_copyFrom_26 ?_
  refine va_put (D := g.1) (ci := 1) (v := .int ll2) (ty := .int) (C := RX1) (T := TX1) (N := 6) hx hb hts izRX1 tyX1 tyX1_ok nmX1 hown hK hP hD hS 0 rfl rfl 2 (by decide) (hts _ k87) (fun _ h9 => h9) rfl (by decide +kernel) rfl rfl (Nat.le_of_ble_eq_true rfl) dX1_copyFrom_29 (fun H locs hP hD hS => ?_)
  have hP : va_P g.1 vwCl (List.flatten [[(lo, .inr (1, [.ref ac, .int ls02, .int ll2, .int lm, .int lg, .int ld])), (ac, .inl (g.2 0, 400, .inl (va_cpy fc2 fc 0 0 400)))], bLaw g lo2 ac2 ls02 ll2 lm2 lg2 ld2 fc2]) H := hP
  have hD : va_D A (List.flatten [[(lo, .inr (1, [.ref ac, .int ls02, .int ll2, .int lm, .int lg, .int ld])), (ac, .inl (g.2 0, 400, .inl (va_cpy fc2 fc 0 0 400)))], bLaw g lo2 ac2 ls02 ll2 lm2 lg2 ld2 fc2]) := hD
  have hP : va_P g.1 vwCl (List.flatten [bLaw g lo ac ls02 ll2 lm lg ld (va_cpy fc2 fc 0 0 400), bLaw g lo2 ac2 ls02 ll2 lm2 lg2 ld2 fc2]) H := hP
  have hD : va_D A (List.flatten [bLaw g lo ac ls02 ll2 lm lg ld (va_cpy fc2 fc 0 0 400), bLaw g lo2 ac2 ls02 ll2 lm2 lg2 ld2 fc2]) := hD
  exact mret_v hx hb hr hlocks hS (Nat.le_of_ble_eq_true rfl) (Nat.le_of_ble_eq_true rfl) dX1_copyFrom_32 (va_cpy fc2 fc 0 0 400) rfl trivial hP hD
set_option maxRecDepth 100000 in
set_option maxHeartbeats 4000000 in
theorem c_Log_copyFrom (l : Launch) (g : zG) (go : Nat) (ar : Nat) (gs : Int32) (gn : Int32) (fr : Nat → Int32) (go2 : Nat) (ar2 : Nat) (gs2 : Int32) (gn2 : Int32) (fr2 : Nat → Int32)  : zM g l yX3_copyFrom (Cond.code yX3_copyFrom cX3_copyFrom 2 none :: zB) ({ frames := 1, cells := 0, slots := 0, locals := 40 } : Room) [.ref go, .ref go2] [bLog g go ar gs gn fr, bLog g go2 ar2 gs2 gn2 fr2] (fun (h : Nat → Int32) => none) (fun (h : Nat → Int32) => True) (fun (h : Nat → Int32) => [bLog g go ar gs2 gn2 h, bLog g go2 ar2 gs2 gn2 fr2]) := by
  refine zM.of (cc := cX3_copyFrom) (maxL := 2) (rt := none) (by decide) rfl (Nat.le_of_ble_eq_true rfl) ?_
  intro p e s m args below meth c A ls St hr hlocks hin hK hT hA hP hD hS hl
  obtain ⟨hx, hb, hml, hown, hts⟩ := id St
  have hl : lv_has ls 2 [(0, .ref go), (1, .ref go2)] := hl
  refine lv_aload_n hx hb dX3_copyFrom_0 rfl (lv_at hl 1 rfl) ?_
  refine va_get (D := g.1) (ci := 3) (v := .ref ar2) (C := RX3) (T := TX3) (N := 3) hx hb hts izRX3 hown hK hP 2 rfl rfl 0 (by decide) (hts _ k124) (fun _ h9 => h9) rfl dX3_copyFrom_1 ?_
  refine lv_iconst (v := 0) hx hb dX3_copyFrom_4 (by decide) ?_
  refine lv_aload_n hx hb dX3_copyFrom_5 rfl (lv_at hl 0 rfl) ?_
  refine va_get (D := g.1) (ci := 3) (v := .ref ar) (C := RX3) (T := TX3) (N := 3) hx hb hts izRX3 hown hK hP 0 rfl rfl 0 (by decide) (hts _ k124) (fun _ h9 => h9) rfl dX3_copyFrom_6 ?_
  refine lv_iconst (v := 0) hx hb dX3_copyFrom_9 (by decide) ?_
  refine lv_sipush (v := 240) hx hb dX3_copyFrom_10 (by decide) ?_
  refine va_copyi (D := g.1) (ty := .int) hx hb (by rw [hml]; exact hl.1.symm) hown (hts _ k220) (hts _ k36) (hts _ k37) (hts _ k38) hK hP hD hS 3 1 0 0 rfl rfl rfl rfl rfl (by decide) (by decide) (by decide) (by decide) (by decide) (fun _ _ => rfl) (Nat.le_of_ble_eq_true rfl) (by decide) dX3_copyFrom_13 (fun H locs hP hD hS => ?_)
  have hP : va_P g.1 vwCl (List.flatten [[(go, .inr (3, [.ref ar, .int gs, .int gn])), (ar, .inl (g.2 0, 240, .inl (va_cpy fr2 fr 0 0 240)))], bLog g go2 ar2 gs2 gn2 fr2]) H := hP
  have hD : va_D A (List.flatten [[(go, .inr (3, [.ref ar, .int gs, .int gn])), (ar, .inl (g.2 0, 240, .inl (va_cpy fr2 fr 0 0 240)))], bLog g go2 ar2 gs2 gn2 fr2]) := hD
  refine lv_aload_n hx hb dX3_copyFrom_16 rfl (lv_at hl 0 rfl) ?_
  refine lv_aload_n hx hb dX3_copyFrom_17 rfl (lv_at hl 1 rfl) ?_
  refine va_get (D := g.1) (ci := 3) (v := .int gs2) (C := RX3) (T := TX3) (N := 3) hx hb hts izRX3 hown hK hP 2 rfl rfl 1 (by decide) (hts _ k125) (fun _ h9 => h9) rfl dX3_copyFrom_18 ?_
  refine va_put (D := g.1) (ci := 3) (v := .int gs2) (ty := .int) (C := RX3) (T := TX3) (N := 3) hx hb hts izRX3 tyX3 tyX3_ok nmX3 hown hK hP hD hS 0 rfl rfl 1 (by decide) (hts _ k125) (fun _ h9 => h9) rfl (by decide +kernel) rfl rfl (Nat.le_of_ble_eq_true rfl) dX3_copyFrom_21 (fun H locs hP hD hS => ?_)
  have hP : va_P g.1 vwCl (List.flatten [[(go, .inr (3, [.ref ar, .int gs2, .int gn])), (ar, .inl (g.2 0, 240, .inl (va_cpy fr2 fr 0 0 240)))], bLog g go2 ar2 gs2 gn2 fr2]) H := hP
  have hD : va_D A (List.flatten [[(go, .inr (3, [.ref ar, .int gs2, .int gn])), (ar, .inl (g.2 0, 240, .inl (va_cpy fr2 fr 0 0 240)))], bLog g go2 ar2 gs2 gn2 fr2]) := hD
  refine lv_aload_n hx hb dX3_copyFrom_24 rfl (lv_at hl 0 rfl) ?_
  refine lv_aload_n hx hb dX3_copyFrom_25 rfl (lv_at hl 1 rfl) ?_
  refine va_get (D := g.1) (ci := 3) (v := .int gn2) (C := RX3) (T := TX3) (N := 3) hx hb hts izRX3 hown hK hP 2 rfl rfl 2 (by decide) (hts _ k123) (fun _ h9 => h9) rfl dX3_copyFrom_26 ?_
  refine va_put (D := g.1) (ci := 3) (v := .int gn2) (ty := .int) (C := RX3) (T := TX3) (N := 3) hx hb hts izRX3 tyX3 tyX3_ok nmX3 hown hK hP hD hS 0 rfl rfl 2 (by decide) (hts _ k123) (fun _ h9 => h9) rfl (by decide +kernel) rfl rfl (Nat.le_of_ble_eq_true rfl) dX3_copyFrom_29 (fun H locs hP hD hS => ?_)
  have hP : va_P g.1 vwCl (List.flatten [[(go, .inr (3, [.ref ar, .int gs2, .int gn2])), (ar, .inl (g.2 0, 240, .inl (va_cpy fr2 fr 0 0 240)))], bLog g go2 ar2 gs2 gn2 fr2]) H := hP
  have hD : va_D A (List.flatten [[(go, .inr (3, [.ref ar, .int gs2, .int gn2])), (ar, .inl (g.2 0, 240, .inl (va_cpy fr2 fr 0 0 240)))], bLog g go2 ar2 gs2 gn2 fr2]) := hD
  have hP : va_P g.1 vwCl (List.flatten [bLog g go ar gs2 gn2 (va_cpy fr2 fr 0 0 240), bLog g go2 ar2 gs2 gn2 fr2]) H := hP
  have hD : va_D A (List.flatten [bLog g go ar gs2 gn2 (va_cpy fr2 fr 0 0 240), bLog g go2 ar2 gs2 gn2 fr2]) := hD
  exact mret_v hx hb hr hlocks hS (Nat.le_of_ble_eq_true rfl) (Nat.le_of_ble_eq_true rfl) dX3_copyFrom_32 (va_cpy fr2 fr 0 0 240) rfl trivial hP hD
set_option maxRecDepth 100000 in
set_option maxHeartbeats 4000000 in
theorem c_Log_at0 (l : Launch) (g : zG) (go : Nat) (ar : Nat) (gn : Int32) (fr : Nat → Int32) (ago : Int32) (wh : Int32)  : zM g l yX3_at (Cond.code yX3_at cX3_at 3 (some .int) :: zB) ({ frames := 0, cells := 0, slots := 0, locals := 0 } : Room) [.ref go, .int ago, .int wh] [bLog g go ar 0 gn fr] (fun _ : Unit => some (.int (-1))) (fun _ : Unit => True) (fun _ : Unit => [bLog g go ar 0 gn fr]) := by
  refine zM.of (cc := cX3_at) (maxL := 3) (rt := (some .int)) (by decide) rfl (Nat.le_of_ble_eq_true rfl) ?_
  intro p e s m args below meth c A ls St hr hlocks hin hK hT hA hP hD hS hl
  obtain ⟨hx, hb, hml, hown, hts⟩ := id St
  have hl : lv_has ls 3 [(0, .ref go), (1, .int ago), (2, .int wh)] := hl
  refine lv_iload_n hx hb dX3_at_0 rfl (lv_at hl 1 rfl) ?_
  refine lv_if_lt (tgt := 12) hx hb dX3_at_1 (by decide) (fun cA => ?_) (fun cA => ?_)
  · skip
    refine lv_iconst (v := (-1)) hx hb dX3_at_12 (by decide) ?_
    have hP : va_P g.1 vwCl (List.flatten [bLog g go ar 0 gn fr]) s.heap := hP
    have hD : va_D A (List.flatten [bLog g go ar 0 gn fr]) := hD
    exact mret_i hx hb hr hlocks hS (Nat.le_of_ble_eq_true rfl) (Nat.le_of_ble_eq_true rfl) dX3_at_13 () rfl trivial hP hD
  · skip
    refine lv_iload_n hx hb dX3_at_4 rfl (lv_at hl 1 rfl) ?_
    refine lv_aload_n hx hb dX3_at_5 rfl (lv_at hl 0 rfl) ?_
    refine va_get (D := g.1) (ci := 3) (v := .int 0) (C := RX3) (T := TX3) (N := 3) hx hb hts izRX3 hown hK hP 0 rfl rfl 1 (by decide) (hts _ k125) (fun _ h9 => h9) rfl dX3_at_6 ?_
    refine lv_icmp_lt (tgt := 14) hx hb dX3_at_9 (by decide) (fun c2 => absurd c2 (fun h9 => absurd h9 (Int32.not_lt.mpr (zge cA)))) (fun _ => ?_)
    refine lv_iconst (v := (-1)) hx hb dX3_at_12 (by decide) ?_
    have hP : va_P g.1 vwCl (List.flatten [bLog g go ar 0 gn fr]) s.heap := hP
    have hD : va_D A (List.flatten [bLog g go ar 0 gn fr]) := hD
    exact mret_i hx hb hr hlocks hS (Nat.le_of_ble_eq_true rfl) (Nat.le_of_ble_eq_true rfl) dX3_at_13 () rfl trivial hP hD
set_option maxRecDepth 100000 in
set_option maxHeartbeats 4000000 in
theorem c_Tape_add0 (l : Launch) (g : zG) (o : Nat) (ab : Nat) (len : Int32) (knd : Int32) (beg : Int32) (nxt : Int32) (flt : Int32) (fb : Nat → Int32) (v : Int32)  : zM g l yX6_add (Cond.code yX6_add cX6_add 3 none :: zB) ({ frames := 0, cells := 0, slots := 0, locals := 0 } : Room) [.ref o, .int v] [bTape g o ab 0 len knd beg nxt flt fb] (fun (fb2 : Nat → Int32) => none) (fun (fb2 : Nat → Int32) => True) (fun (fb2 : Nat → Int32) => [bTape g o ab 4 len knd beg nxt flt fb2]) := by
  refine zM.of (cc := cX6_add) (maxL := 3) (rt := none) (by decide) rfl (Nat.le_of_ble_eq_true rfl) ?_
  intro p e s m args below meth c A ls St hr hlocks hin hK hT hA hP hD hS hl
  obtain ⟨hx, hb, hml, hown, hts⟩ := id St
  have hl : lv_has ls 3 [(0, .ref o), (1, .int v)] := hl
  refine lv_bipush (v := 24) hx hb dX6_add_0 (by decide) ?_
  refine lv_istore_n (lv' := [(2, .int 24), (0, .ref o), (1, .int v)]) hx hb dX6_add_2 rfl hl (by decide) rfl (fun ls hl => ?_)
  refine lv_iload_n hx hb dX6_add_3 rfl (lv_at hl 0 rfl) ?_
  refine lv_if_lt (tgt := 49) hx hb dX6_add_4 (by decide) (fun c1 => absurd c1 (by decide)) (fun _ => ?_)
  refine lv_aload_n hx hb dX6_add_7 rfl (lv_at hl 1 rfl) ?_
  refine va_get (D := g.1) (ci := 6) (v := .int 0) (C := RX6) (T := TX6) (N := 7) hx hb hts izRX6 hown hK hP 0 rfl rfl 1 (by decide) (hts _ k293) (fun _ h9 => h9) rfl dX6_add_8 ?_
  refine lv_sipush (v := 400) hx hb dX6_add_11 (by decide) ?_
  refine lv_icmp_ge (tgt := 49) hx hb dX6_add_14 (by decide) (fun c2 => absurd c2 (by decide)) (fun _ => ?_)
  refine lv_aload_n hx hb dX6_add_17 rfl (lv_at hl 1 rfl) ?_
  refine va_get (D := g.1) (ci := 6) (v := .ref ab) (C := RX6) (T := TX6) (N := 7) hx hb hts izRX6 hown hK hP 0 rfl rfl 0 (by decide) (hts _ k214) (fun _ h9 => h9) rfl dX6_add_18 ?_
  refine lv_aload_n hx hb dX6_add_21 rfl (lv_at hl 1 rfl) ?_
  refine va_get (D := g.1) (ci := 6) (v := .int 0) (C := RX6) (T := TX6) (N := 7) hx hb hts izRX6 hown hK hP 0 rfl rfl 1 (by decide) (hts _ k293) (fun _ h9 => h9) rfl dX6_add_22 ?_
  refine lv_iload_n hx hb dX6_add_25 rfl (lv_at hl 2 rfl) ?_
  refine lv_iload_n hx hb dX6_add_26 rfl (lv_at hl 0 rfl) ?_
  refine lv_iushr (v := ((v : Int32).toUInt32 >>> ((24 : Int32).toUInt32 &&& Int32.toUInt32 31)).toInt32) hx hb dX6_add_27 rfl ?_
  refine lv_sipush (v := 255) hx hb dX6_add_28 (by decide) ?_
  refine lv_iand hx hb dX6_add_31 ?_
  refine va_iast hx hb hK hP hD hS 1 0 rfl rfl (zin rfl) dX6_add_32 (fun H locs hP hD hS => ?_)
  have hP : va_P g.1 vwCl (List.flatten [[(o, .inr (6, [.ref ab, .int 0, .int len, .int knd, .int beg, .int nxt, .int flt])), (ab, .inl (g.2 0, 400, .inl (upd fb 0 ((((v : Int32).toUInt32 >>> ((24 : Int32).toUInt32 &&& Int32.toUInt32 31)).toInt32) &&& 255))))]]) H := hP
  have hD : va_D A (List.flatten [[(o, .inr (6, [.ref ab, .int 0, .int len, .int knd, .int beg, .int nxt, .int flt])), (ab, .inl (g.2 0, 400, .inl (upd fb 0 ((((v : Int32).toUInt32 >>> ((24 : Int32).toUInt32 &&& Int32.toUInt32 31)).toInt32) &&& 255))))]]) := hD
  refine lv_aload_n hx hb dX6_add_33 rfl (lv_at hl 1 rfl) ?_
  refine lv_dup hx hb dX6_add_34 rfl ?_
  refine va_get (D := g.1) (ci := 6) (v := .int 0) (C := RX6) (T := TX6) (N := 7) hx hb hts izRX6 hown hK hP 0 rfl rfl 1 (by decide) (hts _ k293) (fun _ h9 => h9) rfl dX6_add_35 ?_
  refine lv_iconst (v := 1) hx hb dX6_add_38 (by decide) ?_
  refine lv_iadd hx hb dX6_add_39 ?_
  refine ztop (r := 1) (by decide) ?_
  refine va_put (D := g.1) (ci := 6) (v := .int 1) (ty := .int) (C := RX6) (T := TX6) (N := 7) hx hb hts izRX6 tyX6 tyX6_ok nmX6 hown hK hP hD hS 0 rfl rfl 1 (by decide) (hts _ k293) (fun _ h9 => h9) rfl (by decide +kernel) rfl rfl (Nat.le_of_ble_eq_true rfl) dX6_add_40 (fun H locs hP hD hS => ?_)
  have hP : va_P g.1 vwCl (List.flatten [[(o, .inr (6, [.ref ab, .int 1, .int len, .int knd, .int beg, .int nxt, .int flt])), (ab, .inl (g.2 0, 400, .inl (upd fb 0 ((((v : Int32).toUInt32 >>> ((24 : Int32).toUInt32 &&& Int32.toUInt32 31)).toInt32) &&& 255))))]]) H := hP
  have hD : va_D A (List.flatten [[(o, .inr (6, [.ref ab, .int 1, .int len, .int knd, .int beg, .int nxt, .int flt])), (ab, .inl (g.2 0, 400, .inl (upd fb 0 ((((v : Int32).toUInt32 >>> ((24 : Int32).toUInt32 &&& Int32.toUInt32 31)).toInt32) &&& 255))))]]) := hD
  refine lv_iinc (v := 16) (lv' := [(2, .int 16), (0, .ref o), (1, .int v)]) hx hb dX6_add_43 hl (k := 0) rfl (by decide) (by decide) rfl (fun ls hl => ?_)
  refine lv_goto (tgt := 3) hx hb dX6_add_46 (by decide) ?_
  refine lv_iload_n hx hb dX6_add_3 rfl (lv_at hl 0 rfl) ?_
  refine lv_if_lt (tgt := 49) hx hb dX6_add_4 (by decide) (fun c3 => absurd c3 (by decide)) (fun _ => ?_)
  refine lv_aload_n hx hb dX6_add_7 rfl (lv_at hl 1 rfl) ?_
  refine va_get (D := g.1) (ci := 6) (v := .int 1) (C := RX6) (T := TX6) (N := 7) hx hb hts izRX6 hown hK hP 0 rfl rfl 1 (by decide) (hts _ k293) (fun _ h9 => h9) rfl dX6_add_8 ?_
  refine lv_sipush (v := 400) hx hb dX6_add_11 (by decide) ?_
  refine lv_icmp_ge (tgt := 49) hx hb dX6_add_14 (by decide) (fun c4 => absurd c4 (by decide)) (fun _ => ?_)
  refine lv_aload_n hx hb dX6_add_17 rfl (lv_at hl 1 rfl) ?_
  refine va_get (D := g.1) (ci := 6) (v := .ref ab) (C := RX6) (T := TX6) (N := 7) hx hb hts izRX6 hown hK hP 0 rfl rfl 0 (by decide) (hts _ k214) (fun _ h9 => h9) rfl dX6_add_18 ?_
  refine lv_aload_n hx hb dX6_add_21 rfl (lv_at hl 1 rfl) ?_
  refine va_get (D := g.1) (ci := 6) (v := .int 1) (C := RX6) (T := TX6) (N := 7) hx hb hts izRX6 hown hK hP 0 rfl rfl 1 (by decide) (hts _ k293) (fun _ h9 => h9) rfl dX6_add_22 ?_
  refine lv_iload_n hx hb dX6_add_25 rfl (lv_at hl 2 rfl) ?_
  refine lv_iload_n hx hb dX6_add_26 rfl (lv_at hl 0 rfl) ?_
  refine lv_iushr (v := ((v : Int32).toUInt32 >>> ((16 : Int32).toUInt32 &&& Int32.toUInt32 31)).toInt32) hx hb dX6_add_27 rfl ?_
  refine lv_sipush (v := 255) hx hb dX6_add_28 (by decide) ?_
  refine lv_iand hx hb dX6_add_31 ?_
  refine va_iast hx hb hK hP hD hS 1 0 rfl rfl (zin rfl) dX6_add_32 (fun H locs hP hD hS => ?_)
  have hP : va_P g.1 vwCl (List.flatten [[(o, .inr (6, [.ref ab, .int 1, .int len, .int knd, .int beg, .int nxt, .int flt])), (ab, .inl (g.2 0, 400, .inl (upd (upd fb 0 ((((v : Int32).toUInt32 >>> ((24 : Int32).toUInt32 &&& Int32.toUInt32 31)).toInt32) &&& 255)) 1 ((((v : Int32).toUInt32 >>> ((16 : Int32).toUInt32 &&& Int32.toUInt32 31)).toInt32) &&& 255))))]]) H := hP
  have hD : va_D A (List.flatten [[(o, .inr (6, [.ref ab, .int 1, .int len, .int knd, .int beg, .int nxt, .int flt])), (ab, .inl (g.2 0, 400, .inl (upd (upd fb 0 ((((v : Int32).toUInt32 >>> ((24 : Int32).toUInt32 &&& Int32.toUInt32 31)).toInt32) &&& 255)) 1 ((((v : Int32).toUInt32 >>> ((16 : Int32).toUInt32 &&& Int32.toUInt32 31)).toInt32) &&& 255))))]]) := hD
  refine lv_aload_n hx hb dX6_add_33 rfl (lv_at hl 1 rfl) ?_
  refine lv_dup hx hb dX6_add_34 rfl ?_
  refine va_get (D := g.1) (ci := 6) (v := .int 1) (C := RX6) (T := TX6) (N := 7) hx hb hts izRX6 hown hK hP 0 rfl rfl 1 (by decide) (hts _ k293) (fun _ h9 => h9) rfl dX6_add_35 ?_
  refine lv_iconst (v := 1) hx hb dX6_add_38 (by decide) ?_
  refine lv_iadd hx hb dX6_add_39 ?_
  refine ztop (r := 2) (by decide) ?_
  refine va_put (D := g.1) (ci := 6) (v := .int 2) (ty := .int) (C := RX6) (T := TX6) (N := 7) hx hb hts izRX6 tyX6 tyX6_ok nmX6 hown hK hP hD hS 0 rfl rfl 1 (by decide) (hts _ k293) (fun _ h9 => h9) rfl (by decide +kernel) rfl rfl (Nat.le_of_ble_eq_true rfl) dX6_add_40 (fun H locs hP hD hS => ?_)
  have hP : va_P g.1 vwCl (List.flatten [[(o, .inr (6, [.ref ab, .int 2, .int len, .int knd, .int beg, .int nxt, .int flt])), (ab, .inl (g.2 0, 400, .inl (upd (upd fb 0 ((((v : Int32).toUInt32 >>> ((24 : Int32).toUInt32 &&& Int32.toUInt32 31)).toInt32) &&& 255)) 1 ((((v : Int32).toUInt32 >>> ((16 : Int32).toUInt32 &&& Int32.toUInt32 31)).toInt32) &&& 255))))]]) H := hP
  have hD : va_D A (List.flatten [[(o, .inr (6, [.ref ab, .int 2, .int len, .int knd, .int beg, .int nxt, .int flt])), (ab, .inl (g.2 0, 400, .inl (upd (upd fb 0 ((((v : Int32).toUInt32 >>> ((24 : Int32).toUInt32 &&& Int32.toUInt32 31)).toInt32) &&& 255)) 1 ((((v : Int32).toUInt32 >>> ((16 : Int32).toUInt32 &&& Int32.toUInt32 31)).toInt32) &&& 255))))]]) := hD
  refine lv_iinc (v := 8) (lv' := [(2, .int 8), (0, .ref o), (1, .int v)]) hx hb dX6_add_43 hl (k := 0) rfl (by decide) (by decide) rfl (fun ls hl => ?_)
  refine lv_goto (tgt := 3) hx hb dX6_add_46 (by decide) ?_
  refine lv_iload_n hx hb dX6_add_3 rfl (lv_at hl 0 rfl) ?_
  refine lv_if_lt (tgt := 49) hx hb dX6_add_4 (by decide) (fun c5 => absurd c5 (by decide)) (fun _ => ?_)
  refine lv_aload_n hx hb dX6_add_7 rfl (lv_at hl 1 rfl) ?_
  refine va_get (D := g.1) (ci := 6) (v := .int 2) (C := RX6) (T := TX6) (N := 7) hx hb hts izRX6 hown hK hP 0 rfl rfl 1 (by decide) (hts _ k293) (fun _ h9 => h9) rfl dX6_add_8 ?_
  refine lv_sipush (v := 400) hx hb dX6_add_11 (by decide) ?_
  refine lv_icmp_ge (tgt := 49) hx hb dX6_add_14 (by decide) (fun c6 => absurd c6 (by decide)) (fun _ => ?_)
  refine lv_aload_n hx hb dX6_add_17 rfl (lv_at hl 1 rfl) ?_
  refine va_get (D := g.1) (ci := 6) (v := .ref ab) (C := RX6) (T := TX6) (N := 7) hx hb hts izRX6 hown hK hP 0 rfl rfl 0 (by decide) (hts _ k214) (fun _ h9 => h9) rfl dX6_add_18 ?_
  refine lv_aload_n hx hb dX6_add_21 rfl (lv_at hl 1 rfl) ?_
  refine va_get (D := g.1) (ci := 6) (v := .int 2) (C := RX6) (T := TX6) (N := 7) hx hb hts izRX6 hown hK hP 0 rfl rfl 1 (by decide) (hts _ k293) (fun _ h9 => h9) rfl dX6_add_22 ?_
  refine lv_iload_n hx hb dX6_add_25 rfl (lv_at hl 2 rfl) ?_
  refine lv_iload_n hx hb dX6_add_26 rfl (lv_at hl 0 rfl) ?_
  refine lv_iushr (v := ((v : Int32).toUInt32 >>> ((8 : Int32).toUInt32 &&& Int32.toUInt32 31)).toInt32) hx hb dX6_add_27 rfl ?_
  refine lv_sipush (v := 255) hx hb dX6_add_28 (by decide) ?_
  refine lv_iand hx hb dX6_add_31 ?_
  refine va_iast hx hb hK hP hD hS 1 0 rfl rfl (zin rfl) dX6_add_32 (fun H locs hP hD hS => ?_)
  have hP : va_P g.1 vwCl (List.flatten [[(o, .inr (6, [.ref ab, .int 2, .int len, .int knd, .int beg, .int nxt, .int flt])), (ab, .inl (g.2 0, 400, .inl (upd (upd (upd fb 0 ((((v : Int32).toUInt32 >>> ((24 : Int32).toUInt32 &&& Int32.toUInt32 31)).toInt32) &&& 255)) 1 ((((v : Int32).toUInt32 >>> ((16 : Int32).toUInt32 &&& Int32.toUInt32 31)).toInt32) &&& 255)) 2 ((((v : Int32).toUInt32 >>> ((8 : Int32).toUInt32 &&& Int32.toUInt32 31)).toInt32) &&& 255))))]]) H := hP
  have hD : va_D A (List.flatten [[(o, .inr (6, [.ref ab, .int 2, .int len, .int knd, .int beg, .int nxt, .int flt])), (ab, .inl (g.2 0, 400, .inl (upd (upd (upd fb 0 ((((v : Int32).toUInt32 >>> ((24 : Int32).toUInt32 &&& Int32.toUInt32 31)).toInt32) &&& 255)) 1 ((((v : Int32).toUInt32 >>> ((16 : Int32).toUInt32 &&& Int32.toUInt32 31)).toInt32) &&& 255)) 2 ((((v : Int32).toUInt32 >>> ((8 : Int32).toUInt32 &&& Int32.toUInt32 31)).toInt32) &&& 255))))]]) := hD
  refine lv_aload_n hx hb dX6_add_33 rfl (lv_at hl 1 rfl) ?_
  refine lv_dup hx hb dX6_add_34 rfl ?_
  refine va_get (D := g.1) (ci := 6) (v := .int 2) (C := RX6) (T := TX6) (N := 7) hx hb hts izRX6 hown hK hP 0 rfl rfl 1 (by decide) (hts _ k293) (fun _ h9 => h9) rfl dX6_add_35 ?_
  refine lv_iconst (v := 1) hx hb dX6_add_38 (by decide) ?_
  refine lv_iadd hx hb dX6_add_39 ?_
  refine ztop (r := 3) (by decide) ?_
  refine va_put (D := g.1) (ci := 6) (v := .int 3) (ty := .int) (C := RX6) (T := TX6) (N := 7) hx hb hts izRX6 tyX6 tyX6_ok nmX6 hown hK hP hD hS 0 rfl rfl 1 (by decide) (hts _ k293) (fun _ h9 => h9) rfl (by decide +kernel) rfl rfl (Nat.le_of_ble_eq_true rfl) dX6_add_40 (fun H locs hP hD hS => ?_)
  have hP : va_P g.1 vwCl (List.flatten [[(o, .inr (6, [.ref ab, .int 3, .int len, .int knd, .int beg, .int nxt, .int flt])), (ab, .inl (g.2 0, 400, .inl (upd (upd (upd fb 0 ((((v : Int32).toUInt32 >>> ((24 : Int32).toUInt32 &&& Int32.toUInt32 31)).toInt32) &&& 255)) 1 ((((v : Int32).toUInt32 >>> ((16 : Int32).toUInt32 &&& Int32.toUInt32 31)).toInt32) &&& 255)) 2 ((((v : Int32).toUInt32 >>> ((8 : Int32).toUInt32 &&& Int32.toUInt32 31)).toInt32) &&& 255))))]]) H := hP
  have hD : va_D A (List.flatten [[(o, .inr (6, [.ref ab, .int 3, .int len, .int knd, .int beg, .int nxt, .int flt])), (ab, .inl (g.2 0, 400, .inl (upd (upd (upd fb 0 ((((v : Int32).toUInt32 >>> ((24 : Int32).toUInt32 &&& Int32.toUInt32 31)).toInt32) &&& 255)) 1 ((((v : Int32).toUInt32 >>> ((16 : Int32).toUInt32 &&& Int32.toUInt32 31)).toInt32) &&& 255)) 2 ((((v : Int32).toUInt32 >>> ((8 : Int32).toUInt32 &&& Int32.toUInt32 31)).toInt32) &&& 255))))]]) := hD
  refine lv_iinc (v := 0) (lv' := [(2, .int 0), (0, .ref o), (1, .int v)]) hx hb dX6_add_43 hl (k := 0) rfl (by decide) (by decide) rfl (fun ls hl => ?_)
  refine lv_goto (tgt := 3) hx hb dX6_add_46 (by decide) ?_
  refine lv_iload_n hx hb dX6_add_3 rfl (lv_at hl 0 rfl) ?_
  refine lv_if_lt (tgt := 49) hx hb dX6_add_4 (by decide) (fun c7 => absurd c7 (by decide)) (fun _ => ?_)
  refine lv_aload_n hx hb dX6_add_7 rfl (lv_at hl 1 rfl) ?_
  refine va_get (D := g.1) (ci := 6) (v := .int 3) (C := RX6) (T := TX6) (N := 7) hx hb hts izRX6 hown hK hP 0 rfl rfl 1 (by decide) (hts _ k293) (fun _ h9 => h9) rfl dX6_add_8 ?_
  refine lv_sipush (v := 400) hx hb dX6_add_11 (by decide) ?_
  refine lv_icmp_ge (tgt := 49) hx hb dX6_add_14 (by decide) (fun c8 => absurd c8 (by decide)) (fun _ => ?_)
  refine lv_aload_n hx hb dX6_add_17 rfl (lv_at hl 1 rfl) ?_
  refine va_get (D := g.1) (ci := 6) (v := .ref ab) (C := RX6) (T := TX6) (N := 7) hx hb hts izRX6 hown hK hP 0 rfl rfl 0 (by decide) (hts _ k214) (fun _ h9 => h9) rfl dX6_add_18 ?_
  refine lv_aload_n hx hb dX6_add_21 rfl (lv_at hl 1 rfl) ?_
  refine va_get (D := g.1) (ci := 6) (v := .int 3) (C := RX6) (T := TX6) (N := 7) hx hb hts izRX6 hown hK hP 0 rfl rfl 1 (by decide) (hts _ k293) (fun _ h9 => h9) rfl dX6_add_22 ?_
  refine lv_iload_n hx hb dX6_add_25 rfl (lv_at hl 2 rfl) ?_
  refine lv_iload_n hx hb dX6_add_26 rfl (lv_at hl 0 rfl) ?_
  refine lv_iushr (v := ((v : Int32).toUInt32 >>> ((0 : Int32).toUInt32 &&& Int32.toUInt32 31)).toInt32) hx hb dX6_add_27 rfl ?_
  refine lv_sipush (v := 255) hx hb dX6_add_28 (by decide) ?_
  refine lv_iand hx hb dX6_add_31 ?_
  refine va_iast hx hb hK hP hD hS 1 0 rfl rfl (zin rfl) dX6_add_32 (fun H locs hP hD hS => ?_)
  have hP : va_P g.1 vwCl (List.flatten [[(o, .inr (6, [.ref ab, .int 3, .int len, .int knd, .int beg, .int nxt, .int flt])), (ab, .inl (g.2 0, 400, .inl (upd (upd (upd (upd fb 0 ((((v : Int32).toUInt32 >>> ((24 : Int32).toUInt32 &&& Int32.toUInt32 31)).toInt32) &&& 255)) 1 ((((v : Int32).toUInt32 >>> ((16 : Int32).toUInt32 &&& Int32.toUInt32 31)).toInt32) &&& 255)) 2 ((((v : Int32).toUInt32 >>> ((8 : Int32).toUInt32 &&& Int32.toUInt32 31)).toInt32) &&& 255)) 3 ((((v : Int32).toUInt32 >>> ((0 : Int32).toUInt32 &&& Int32.toUInt32 31)).toInt32) &&& 255))))]]) H := hP
  have hD : va_D A (List.flatten [[(o, .inr (6, [.ref ab, .int 3, .int len, .int knd, .int beg, .int nxt, .int flt])), (ab, .inl (g.2 0, 400, .inl (upd (upd (upd (upd fb 0 ((((v : Int32).toUInt32 >>> ((24 : Int32).toUInt32 &&& Int32.toUInt32 31)).toInt32) &&& 255)) 1 ((((v : Int32).toUInt32 >>> ((16 : Int32).toUInt32 &&& Int32.toUInt32 31)).toInt32) &&& 255)) 2 ((((v : Int32).toUInt32 >>> ((8 : Int32).toUInt32 &&& Int32.toUInt32 31)).toInt32) &&& 255)) 3 ((((v : Int32).toUInt32 >>> ((0 : Int32).toUInt32 &&& Int32.toUInt32 31)).toInt32) &&& 255))))]]) := hD
  refine lv_aload_n hx hb dX6_add_33 rfl (lv_at hl 1 rfl) ?_
  refine lv_dup hx hb dX6_add_34 rfl ?_
  refine va_get (D := g.1) (ci := 6) (v := .int 3) (C := RX6) (T := TX6) (N := 7) hx hb hts izRX6 hown hK hP 0 rfl rfl 1 (by decide) (hts _ k293) (fun _ h9 => h9) rfl dX6_add_35 ?_
  refine lv_iconst (v := 1) hx hb dX6_add_38 (by decide) ?_
  refine lv_iadd hx hb dX6_add_39 ?_
  refine ztop (r := 4) (by decide) ?_
  refine va_put (D := g.1) (ci := 6) (v := .int 4) (ty := .int) (C := RX6) (T := TX6) (N := 7) hx hb hts izRX6 tyX6 tyX6_ok nmX6 hown hK hP hD hS 0 rfl rfl 1 (by decide) (hts _ k293) (fun _ h9 => h9) rfl (by decide +kernel) rfl rfl (Nat.le_of_ble_eq_true rfl) dX6_add_40 (fun H locs hP hD hS => ?_)
  have hP : va_P g.1 vwCl (List.flatten [[(o, .inr (6, [.ref ab, .int 4, .int len, .int knd, .int beg, .int nxt, .int flt])), (ab, .inl (g.2 0, 400, .inl (upd (upd (upd (upd fb 0 ((((v : Int32).toUInt32 >>> ((24 : Int32).toUInt32 &&& Int32.toUInt32 31)).toInt32) &&& 255)) 1 ((((v : Int32).toUInt32 >>> ((16 : Int32).toUInt32 &&& Int32.toUInt32 31)).toInt32) &&& 255)) 2 ((((v : Int32).toUInt32 >>> ((8 : Int32).toUInt32 &&& Int32.toUInt32 31)).toInt32) &&& 255)) 3 ((((v : Int32).toUInt32 >>> ((0 : Int32).toUInt32 &&& Int32.toUInt32 31)).toInt32) &&& 255))))]]) H := hP
  have hD : va_D A (List.flatten [[(o, .inr (6, [.ref ab, .int 4, .int len, .int knd, .int beg, .int nxt, .int flt])), (ab, .inl (g.2 0, 400, .inl (upd (upd (upd (upd fb 0 ((((v : Int32).toUInt32 >>> ((24 : Int32).toUInt32 &&& Int32.toUInt32 31)).toInt32) &&& 255)) 1 ((((v : Int32).toUInt32 >>> ((16 : Int32).toUInt32 &&& Int32.toUInt32 31)).toInt32) &&& 255)) 2 ((((v : Int32).toUInt32 >>> ((8 : Int32).toUInt32 &&& Int32.toUInt32 31)).toInt32) &&& 255)) 3 ((((v : Int32).toUInt32 >>> ((0 : Int32).toUInt32 &&& Int32.toUInt32 31)).toInt32) &&& 255))))]]) := hD
  refine lv_iinc (v := (-8)) (lv' := [(2, .int (-8)), (0, .ref o), (1, .int v)]) hx hb dX6_add_43 hl (k := 0) rfl (by decide) (by decide) rfl (fun ls hl => ?_)
  refine lv_goto (tgt := 3) hx hb dX6_add_46 (by decide) ?_
  refine lv_iload_n hx hb dX6_add_3 rfl (lv_at hl 0 rfl) ?_
  refine lv_if_lt (tgt := 49) hx hb dX6_add_4 (by decide) (fun _ => ?_) (fun c9 => absurd (by decide) c9)
  have hP : va_P g.1 vwCl (List.flatten [bTape g o ab 4 len knd beg nxt flt (upd (upd (upd (upd fb 0 ((((v : Int32).toUInt32 >>> ((24 : Int32).toUInt32 &&& Int32.toUInt32 31)).toInt32) &&& 255)) 1 ((((v : Int32).toUInt32 >>> ((16 : Int32).toUInt32 &&& Int32.toUInt32 31)).toInt32) &&& 255)) 2 ((((v : Int32).toUInt32 >>> ((8 : Int32).toUInt32 &&& Int32.toUInt32 31)).toInt32) &&& 255)) 3 ((((v : Int32).toUInt32 >>> ((0 : Int32).toUInt32 &&& Int32.toUInt32 31)).toInt32) &&& 255))]) H := hP
  have hD : va_D A (List.flatten [bTape g o ab 4 len knd beg nxt flt (upd (upd (upd (upd fb 0 ((((v : Int32).toUInt32 >>> ((24 : Int32).toUInt32 &&& Int32.toUInt32 31)).toInt32) &&& 255)) 1 ((((v : Int32).toUInt32 >>> ((16 : Int32).toUInt32 &&& Int32.toUInt32 31)).toInt32) &&& 255)) 2 ((((v : Int32).toUInt32 >>> ((8 : Int32).toUInt32 &&& Int32.toUInt32 31)).toInt32) &&& 255)) 3 ((((v : Int32).toUInt32 >>> ((0 : Int32).toUInt32 &&& Int32.toUInt32 31)).toInt32) &&& 255))]) := hD
  exact mret_v hx hb hr hlocks hS (Nat.le_of_ble_eq_true rfl) (Nat.le_of_ble_eq_true rfl) dX6_add_49 (upd (upd (upd (upd fb 0 ((((v : Int32).toUInt32 >>> ((24 : Int32).toUInt32 &&& Int32.toUInt32 31)).toInt32) &&& 255)) 1 ((((v : Int32).toUInt32 >>> ((16 : Int32).toUInt32 &&& Int32.toUInt32 31)).toInt32) &&& 255)) 2 ((((v : Int32).toUInt32 >>> ((8 : Int32).toUInt32 &&& Int32.toUInt32 31)).toInt32) &&& 255)) 3 ((((v : Int32).toUInt32 >>> ((0 : Int32).toUInt32 &&& Int32.toUInt32 31)).toInt32) &&& 255)) rfl trivial hP hD
set_option maxRecDepth 100000 in
set_option maxHeartbeats 4000000 in
theorem c_Tape_add4 (l : Launch) (g : zG) (o : Nat) (ab : Nat) (len : Int32) (knd : Int32) (beg : Int32) (nxt : Int32) (flt : Int32) (fb : Nat → Int32) (v : Int32)  : zM g l yX6_add (Cond.code yX6_add cX6_add 3 none :: zB) ({ frames := 0, cells := 0, slots := 0, locals := 0 } : Room) [.ref o, .int v] [bTape g o ab 4 len knd beg nxt flt fb] (fun (fb2 : Nat → Int32) => none) (fun (fb2 : Nat → Int32) => True) (fun (fb2 : Nat → Int32) => [bTape g o ab 8 len knd beg nxt flt fb2]) := by
  refine zM.of (cc := cX6_add) (maxL := 3) (rt := none) (by decide) rfl (Nat.le_of_ble_eq_true rfl) ?_
  intro p e s m args below meth c A ls St hr hlocks hin hK hT hA hP hD hS hl
  obtain ⟨hx, hb, hml, hown, hts⟩ := id St
  have hl : lv_has ls 3 [(0, .ref o), (1, .int v)] := hl
  refine lv_bipush (v := 24) hx hb dX6_add_0 (by decide) ?_
  refine lv_istore_n (lv' := [(2, .int 24), (0, .ref o), (1, .int v)]) hx hb dX6_add_2 rfl hl (by decide) rfl (fun ls hl => ?_)
  refine lv_iload_n hx hb dX6_add_3 rfl (lv_at hl 0 rfl) ?_
  refine lv_if_lt (tgt := 49) hx hb dX6_add_4 (by decide) (fun c1 => absurd c1 (by decide)) (fun _ => ?_)
  refine lv_aload_n hx hb dX6_add_7 rfl (lv_at hl 1 rfl) ?_
  refine va_get (D := g.1) (ci := 6) (v := .int 4) (C := RX6) (T := TX6) (N := 7) hx hb hts izRX6 hown hK hP 0 rfl rfl 1 (by decide) (hts _ k293) (fun _ h9 => h9) rfl dX6_add_8 ?_
  refine lv_sipush (v := 400) hx hb dX6_add_11 (by decide) ?_
  refine lv_icmp_ge (tgt := 49) hx hb dX6_add_14 (by decide) (fun c2 => absurd c2 (by decide)) (fun _ => ?_)
  refine lv_aload_n hx hb dX6_add_17 rfl (lv_at hl 1 rfl) ?_
  refine va_get (D := g.1) (ci := 6) (v := .ref ab) (C := RX6) (T := TX6) (N := 7) hx hb hts izRX6 hown hK hP 0 rfl rfl 0 (by decide) (hts _ k214) (fun _ h9 => h9) rfl dX6_add_18 ?_
  refine lv_aload_n hx hb dX6_add_21 rfl (lv_at hl 1 rfl) ?_
  refine va_get (D := g.1) (ci := 6) (v := .int 4) (C := RX6) (T := TX6) (N := 7) hx hb hts izRX6 hown hK hP 0 rfl rfl 1 (by decide) (hts _ k293) (fun _ h9 => h9) rfl dX6_add_22 ?_
  refine lv_iload_n hx hb dX6_add_25 rfl (lv_at hl 2 rfl) ?_
  refine lv_iload_n hx hb dX6_add_26 rfl (lv_at hl 0 rfl) ?_
  refine lv_iushr (v := ((v : Int32).toUInt32 >>> ((24 : Int32).toUInt32 &&& Int32.toUInt32 31)).toInt32) hx hb dX6_add_27 rfl ?_
  refine lv_sipush (v := 255) hx hb dX6_add_28 (by decide) ?_
  refine lv_iand hx hb dX6_add_31 ?_
  refine va_iast hx hb hK hP hD hS 1 0 rfl rfl (zin rfl) dX6_add_32 (fun H locs hP hD hS => ?_)
  have hP : va_P g.1 vwCl (List.flatten [[(o, .inr (6, [.ref ab, .int 4, .int len, .int knd, .int beg, .int nxt, .int flt])), (ab, .inl (g.2 0, 400, .inl (upd fb 4 ((((v : Int32).toUInt32 >>> ((24 : Int32).toUInt32 &&& Int32.toUInt32 31)).toInt32) &&& 255))))]]) H := hP
  have hD : va_D A (List.flatten [[(o, .inr (6, [.ref ab, .int 4, .int len, .int knd, .int beg, .int nxt, .int flt])), (ab, .inl (g.2 0, 400, .inl (upd fb 4 ((((v : Int32).toUInt32 >>> ((24 : Int32).toUInt32 &&& Int32.toUInt32 31)).toInt32) &&& 255))))]]) := hD
  refine lv_aload_n hx hb dX6_add_33 rfl (lv_at hl 1 rfl) ?_
  refine lv_dup hx hb dX6_add_34 rfl ?_
  refine va_get (D := g.1) (ci := 6) (v := .int 4) (C := RX6) (T := TX6) (N := 7) hx hb hts izRX6 hown hK hP 0 rfl rfl 1 (by decide) (hts _ k293) (fun _ h9 => h9) rfl dX6_add_35 ?_
  refine lv_iconst (v := 1) hx hb dX6_add_38 (by decide) ?_
  refine lv_iadd hx hb dX6_add_39 ?_
  refine ztop (r := 5) (by decide) ?_
  refine va_put (D := g.1) (ci := 6) (v := .int 5) (ty := .int) (C := RX6) (T := TX6) (N := 7) hx hb hts izRX6 tyX6 tyX6_ok nmX6 hown hK hP hD hS 0 rfl rfl 1 (by decide) (hts _ k293) (fun _ h9 => h9) rfl (by decide +kernel) rfl rfl (Nat.le_of_ble_eq_true rfl) dX6_add_40 (fun H locs hP hD hS => ?_)
  have hP : va_P g.1 vwCl (List.flatten [[(o, .inr (6, [.ref ab, .int 5, .int len, .int knd, .int beg, .int nxt, .int flt])), (ab, .inl (g.2 0, 400, .inl (upd fb 4 ((((v : Int32).toUInt32 >>> ((24 : Int32).toUInt32 &&& Int32.toUInt32 31)).toInt32) &&& 255))))]]) H := hP
  have hD : va_D A (List.flatten [[(o, .inr (6, [.ref ab, .int 5, .int len, .int knd, .int beg, .int nxt, .int flt])), (ab, .inl (g.2 0, 400, .inl (upd fb 4 ((((v : Int32).toUInt32 >>> ((24 : Int32).toUInt32 &&& Int32.toUInt32 31)).toInt32) &&& 255))))]]) := hD
  refine lv_iinc (v := 16) (lv' := [(2, .int 16), (0, .ref o), (1, .int v)]) hx hb dX6_add_43 hl (k := 0) rfl (by decide) (by decide) rfl (fun ls hl => ?_)
  refine lv_goto (tgt := 3) hx hb dX6_add_46 (by decide) ?_
  refine lv_iload_n hx hb dX6_add_3 rfl (lv_at hl 0 rfl) ?_
  refine lv_if_lt (tgt := 49) hx hb dX6_add_4 (by decide) (fun c3 => absurd c3 (by decide)) (fun _ => ?_)
  refine lv_aload_n hx hb dX6_add_7 rfl (lv_at hl 1 rfl) ?_
  refine va_get (D := g.1) (ci := 6) (v := .int 5) (C := RX6) (T := TX6) (N := 7) hx hb hts izRX6 hown hK hP 0 rfl rfl 1 (by decide) (hts _ k293) (fun _ h9 => h9) rfl dX6_add_8 ?_
  refine lv_sipush (v := 400) hx hb dX6_add_11 (by decide) ?_
  refine lv_icmp_ge (tgt := 49) hx hb dX6_add_14 (by decide) (fun c4 => absurd c4 (by decide)) (fun _ => ?_)
  refine lv_aload_n hx hb dX6_add_17 rfl (lv_at hl 1 rfl) ?_
  refine va_get (D := g.1) (ci := 6) (v := .ref ab) (C := RX6) (T := TX6) (N := 7) hx hb hts izRX6 hown hK hP 0 rfl rfl 0 (by decide) (hts _ k214) (fun _ h9 => h9) rfl dX6_add_18 ?_
  refine lv_aload_n hx hb dX6_add_21 rfl (lv_at hl 1 rfl) ?_
  refine va_get (D := g.1) (ci := 6) (v := .int 5) (C := RX6) (T := TX6) (N := 7) hx hb hts izRX6 hown hK hP 0 rfl rfl 1 (by decide) (hts _ k293) (fun _ h9 => h9) rfl dX6_add_22 ?_
  refine lv_iload_n hx hb dX6_add_25 rfl (lv_at hl 2 rfl) ?_
  refine lv_iload_n hx hb dX6_add_26 rfl (lv_at hl 0 rfl) ?_
  refine lv_iushr (v := ((v : Int32).toUInt32 >>> ((16 : Int32).toUInt32 &&& Int32.toUInt32 31)).toInt32) hx hb dX6_add_27 rfl ?_
  refine lv_sipush (v := 255) hx hb dX6_add_28 (by decide) ?_
  refine lv_iand hx hb dX6_add_31 ?_
  refine va_iast hx hb hK hP hD hS 1 0 rfl rfl (zin rfl) dX6_add_32 (fun H locs hP hD hS => ?_)
  have hP : va_P g.1 vwCl (List.flatten [[(o, .inr (6, [.ref ab, .int 5, .int len, .int knd, .int beg, .int nxt, .int flt])), (ab, .inl (g.2 0, 400, .inl (upd (upd fb 4 ((((v : Int32).toUInt32 >>> ((24 : Int32).toUInt32 &&& Int32.toUInt32 31)).toInt32) &&& 255)) 5 ((((v : Int32).toUInt32 >>> ((16 : Int32).toUInt32 &&& Int32.toUInt32 31)).toInt32) &&& 255))))]]) H := hP
  have hD : va_D A (List.flatten [[(o, .inr (6, [.ref ab, .int 5, .int len, .int knd, .int beg, .int nxt, .int flt])), (ab, .inl (g.2 0, 400, .inl (upd (upd fb 4 ((((v : Int32).toUInt32 >>> ((24 : Int32).toUInt32 &&& Int32.toUInt32 31)).toInt32) &&& 255)) 5 ((((v : Int32).toUInt32 >>> ((16 : Int32).toUInt32 &&& Int32.toUInt32 31)).toInt32) &&& 255))))]]) := hD
  refine lv_aload_n hx hb dX6_add_33 rfl (lv_at hl 1 rfl) ?_
  refine lv_dup hx hb dX6_add_34 rfl ?_
  refine va_get (D := g.1) (ci := 6) (v := .int 5) (C := RX6) (T := TX6) (N := 7) hx hb hts izRX6 hown hK hP 0 rfl rfl 1 (by decide) (hts _ k293) (fun _ h9 => h9) rfl dX6_add_35 ?_
  refine lv_iconst (v := 1) hx hb dX6_add_38 (by decide) ?_
  refine lv_iadd hx hb dX6_add_39 ?_
  refine ztop (r := 6) (by decide) ?_
  refine va_put (D := g.1) (ci := 6) (v := .int 6) (ty := .int) (C := RX6) (T := TX6) (N := 7) hx hb hts izRX6 tyX6 tyX6_ok nmX6 hown hK hP hD hS 0 rfl rfl 1 (by decide) (hts _ k293) (fun _ h9 => h9) rfl (by decide +kernel) rfl rfl (Nat.le_of_ble_eq_true rfl) dX6_add_40 (fun H locs hP hD hS => ?_)
  have hP : va_P g.1 vwCl (List.flatten [[(o, .inr (6, [.ref ab, .int 6, .int len, .int knd, .int beg, .int nxt, .int flt])), (ab, .inl (g.2 0, 400, .inl (upd (upd fb 4 ((((v : Int32).toUInt32 >>> ((24 : Int32).toUInt32 &&& Int32.toUInt32 31)).toInt32) &&& 255)) 5 ((((v : Int32).toUInt32 >>> ((16 : Int32).toUInt32 &&& Int32.toUInt32 31)).toInt32) &&& 255))))]]) H := hP
  have hD : va_D A (List.flatten [[(o, .inr (6, [.ref ab, .int 6, .int len, .int knd, .int beg, .int nxt, .int flt])), (ab, .inl (g.2 0, 400, .inl (upd (upd fb 4 ((((v : Int32).toUInt32 >>> ((24 : Int32).toUInt32 &&& Int32.toUInt32 31)).toInt32) &&& 255)) 5 ((((v : Int32).toUInt32 >>> ((16 : Int32).toUInt32 &&& Int32.toUInt32 31)).toInt32) &&& 255))))]]) := hD
  refine lv_iinc (v := 8) (lv' := [(2, .int 8), (0, .ref o), (1, .int v)]) hx hb dX6_add_43 hl (k := 0) rfl (by decide) (by decide) rfl (fun ls hl => ?_)
  refine lv_goto (tgt := 3) hx hb dX6_add_46 (by decide) ?_
  refine lv_iload_n hx hb dX6_add_3 rfl (lv_at hl 0 rfl) ?_
  refine lv_if_lt (tgt := 49) hx hb dX6_add_4 (by decide) (fun c5 => absurd c5 (by decide)) (fun _ => ?_)
  refine lv_aload_n hx hb dX6_add_7 rfl (lv_at hl 1 rfl) ?_
  refine va_get (D := g.1) (ci := 6) (v := .int 6) (C := RX6) (T := TX6) (N := 7) hx hb hts izRX6 hown hK hP 0 rfl rfl 1 (by decide) (hts _ k293) (fun _ h9 => h9) rfl dX6_add_8 ?_
  refine lv_sipush (v := 400) hx hb dX6_add_11 (by decide) ?_
  refine lv_icmp_ge (tgt := 49) hx hb dX6_add_14 (by decide) (fun c6 => absurd c6 (by decide)) (fun _ => ?_)
  refine lv_aload_n hx hb dX6_add_17 rfl (lv_at hl 1 rfl) ?_
  refine va_get (D := g.1) (ci := 6) (v := .ref ab) (C := RX6) (T := TX6) (N := 7) hx hb hts izRX6 hown hK hP 0 rfl rfl 0 (by decide) (hts _ k214) (fun _ h9 => h9) rfl dX6_add_18 ?_
  refine lv_aload_n hx hb dX6_add_21 rfl (lv_at hl 1 rfl) ?_
  refine va_get (D := g.1) (ci := 6) (v := .int 6) (C := RX6) (T := TX6) (N := 7) hx hb hts izRX6 hown hK hP 0 rfl rfl 1 (by decide) (hts _ k293) (fun _ h9 => h9) rfl dX6_add_22 ?_
  refine lv_iload_n hx hb dX6_add_25 rfl (lv_at hl 2 rfl) ?_
  refine lv_iload_n hx hb dX6_add_26 rfl (lv_at hl 0 rfl) ?_
  refine lv_iushr (v := ((v : Int32).toUInt32 >>> ((8 : Int32).toUInt32 &&& Int32.toUInt32 31)).toInt32) hx hb dX6_add_27 rfl ?_
  refine lv_sipush (v := 255) hx hb dX6_add_28 (by decide) ?_
  refine lv_iand hx hb dX6_add_31 ?_
  refine va_iast hx hb hK hP hD hS 1 0 rfl rfl (zin rfl) dX6_add_32 (fun H locs hP hD hS => ?_)
  have hP : va_P g.1 vwCl (List.flatten [[(o, .inr (6, [.ref ab, .int 6, .int len, .int knd, .int beg, .int nxt, .int flt])), (ab, .inl (g.2 0, 400, .inl (upd (upd (upd fb 4 ((((v : Int32).toUInt32 >>> ((24 : Int32).toUInt32 &&& Int32.toUInt32 31)).toInt32) &&& 255)) 5 ((((v : Int32).toUInt32 >>> ((16 : Int32).toUInt32 &&& Int32.toUInt32 31)).toInt32) &&& 255)) 6 ((((v : Int32).toUInt32 >>> ((8 : Int32).toUInt32 &&& Int32.toUInt32 31)).toInt32) &&& 255))))]]) H := hP
  have hD : va_D A (List.flatten [[(o, .inr (6, [.ref ab, .int 6, .int len, .int knd, .int beg, .int nxt, .int flt])), (ab, .inl (g.2 0, 400, .inl (upd (upd (upd fb 4 ((((v : Int32).toUInt32 >>> ((24 : Int32).toUInt32 &&& Int32.toUInt32 31)).toInt32) &&& 255)) 5 ((((v : Int32).toUInt32 >>> ((16 : Int32).toUInt32 &&& Int32.toUInt32 31)).toInt32) &&& 255)) 6 ((((v : Int32).toUInt32 >>> ((8 : Int32).toUInt32 &&& Int32.toUInt32 31)).toInt32) &&& 255))))]]) := hD
  refine lv_aload_n hx hb dX6_add_33 rfl (lv_at hl 1 rfl) ?_
  refine lv_dup hx hb dX6_add_34 rfl ?_
  refine va_get (D := g.1) (ci := 6) (v := .int 6) (C := RX6) (T := TX6) (N := 7) hx hb hts izRX6 hown hK hP 0 rfl rfl 1 (by decide) (hts _ k293) (fun _ h9 => h9) rfl dX6_add_35 ?_
  refine lv_iconst (v := 1) hx hb dX6_add_38 (by decide) ?_
  refine lv_iadd hx hb dX6_add_39 ?_
  refine ztop (r := 7) (by decide) ?_
  refine va_put (D := g.1) (ci := 6) (v := .int 7) (ty := .int) (C := RX6) (T := TX6) (N := 7) hx hb hts izRX6 tyX6 tyX6_ok nmX6 hown hK hP hD hS 0 rfl rfl 1 (by decide) (hts _ k293) (fun _ h9 => h9) rfl (by decide +kernel) rfl rfl (Nat.le_of_ble_eq_true rfl) dX6_add_40 (fun H locs hP hD hS => ?_)
  have hP : va_P g.1 vwCl (List.flatten [[(o, .inr (6, [.ref ab, .int 7, .int len, .int knd, .int beg, .int nxt, .int flt])), (ab, .inl (g.2 0, 400, .inl (upd (upd (upd fb 4 ((((v : Int32).toUInt32 >>> ((24 : Int32).toUInt32 &&& Int32.toUInt32 31)).toInt32) &&& 255)) 5 ((((v : Int32).toUInt32 >>> ((16 : Int32).toUInt32 &&& Int32.toUInt32 31)).toInt32) &&& 255)) 6 ((((v : Int32).toUInt32 >>> ((8 : Int32).toUInt32 &&& Int32.toUInt32 31)).toInt32) &&& 255))))]]) H := hP
  have hD : va_D A (List.flatten [[(o, .inr (6, [.ref ab, .int 7, .int len, .int knd, .int beg, .int nxt, .int flt])), (ab, .inl (g.2 0, 400, .inl (upd (upd (upd fb 4 ((((v : Int32).toUInt32 >>> ((24 : Int32).toUInt32 &&& Int32.toUInt32 31)).toInt32) &&& 255)) 5 ((((v : Int32).toUInt32 >>> ((16 : Int32).toUInt32 &&& Int32.toUInt32 31)).toInt32) &&& 255)) 6 ((((v : Int32).toUInt32 >>> ((8 : Int32).toUInt32 &&& Int32.toUInt32 31)).toInt32) &&& 255))))]]) := hD
  refine lv_iinc (v := 0) (lv' := [(2, .int 0), (0, .ref o), (1, .int v)]) hx hb dX6_add_43 hl (k := 0) rfl (by decide) (by decide) rfl (fun ls hl => ?_)
  refine lv_goto (tgt := 3) hx hb dX6_add_46 (by decide) ?_
  refine lv_iload_n hx hb dX6_add_3 rfl (lv_at hl 0 rfl) ?_
  refine lv_if_lt (tgt := 49) hx hb dX6_add_4 (by decide) (fun c7 => absurd c7 (by decide)) (fun _ => ?_)
  refine lv_aload_n hx hb dX6_add_7 rfl (lv_at hl 1 rfl) ?_
  refine va_get (D := g.1) (ci := 6) (v := .int 7) (C := RX6) (T := TX6) (N := 7) hx hb hts izRX6 hown hK hP 0 rfl rfl 1 (by decide) (hts _ k293) (fun _ h9 => h9) rfl dX6_add_8 ?_
  refine lv_sipush (v := 400) hx hb dX6_add_11 (by decide) ?_
  refine lv_icmp_ge (tgt := 49) hx hb dX6_add_14 (by decide) (fun c8 => absurd c8 (by decide)) (fun _ => ?_)
  refine lv_aload_n hx hb dX6_add_17 rfl (lv_at hl 1 rfl) ?_
  refine va_get (D := g.1) (ci := 6) (v := .ref ab) (C := RX6) (T := TX6) (N := 7) hx hb hts izRX6 hown hK hP 0 rfl rfl 0 (by decide) (hts _ k214) (fun _ h9 => h9) rfl dX6_add_18 ?_
  refine lv_aload_n hx hb dX6_add_21 rfl (lv_at hl 1 rfl) ?_
  refine va_get (D := g.1) (ci := 6) (v := .int 7) (C := RX6) (T := TX6) (N := 7) hx hb hts izRX6 hown hK hP 0 rfl rfl 1 (by decide) (hts _ k293) (fun _ h9 => h9) rfl dX6_add_22 ?_
  refine lv_iload_n hx hb dX6_add_25 rfl (lv_at hl 2 rfl) ?_
  refine lv_iload_n hx hb dX6_add_26 rfl (lv_at hl 0 rfl) ?_
  refine lv_iushr (v := ((v : Int32).toUInt32 >>> ((0 : Int32).toUInt32 &&& Int32.toUInt32 31)).toInt32) hx hb dX6_add_27 rfl ?_
  refine lv_sipush (v := 255) hx hb dX6_add_28 (by decide) ?_
  refine lv_iand hx hb dX6_add_31 ?_
  refine va_iast hx hb hK hP hD hS 1 0 rfl rfl (zin rfl) dX6_add_32 (fun H locs hP hD hS => ?_)
  have hP : va_P g.1 vwCl (List.flatten [[(o, .inr (6, [.ref ab, .int 7, .int len, .int knd, .int beg, .int nxt, .int flt])), (ab, .inl (g.2 0, 400, .inl (upd (upd (upd (upd fb 4 ((((v : Int32).toUInt32 >>> ((24 : Int32).toUInt32 &&& Int32.toUInt32 31)).toInt32) &&& 255)) 5 ((((v : Int32).toUInt32 >>> ((16 : Int32).toUInt32 &&& Int32.toUInt32 31)).toInt32) &&& 255)) 6 ((((v : Int32).toUInt32 >>> ((8 : Int32).toUInt32 &&& Int32.toUInt32 31)).toInt32) &&& 255)) 7 ((((v : Int32).toUInt32 >>> ((0 : Int32).toUInt32 &&& Int32.toUInt32 31)).toInt32) &&& 255))))]]) H := hP
  have hD : va_D A (List.flatten [[(o, .inr (6, [.ref ab, .int 7, .int len, .int knd, .int beg, .int nxt, .int flt])), (ab, .inl (g.2 0, 400, .inl (upd (upd (upd (upd fb 4 ((((v : Int32).toUInt32 >>> ((24 : Int32).toUInt32 &&& Int32.toUInt32 31)).toInt32) &&& 255)) 5 ((((v : Int32).toUInt32 >>> ((16 : Int32).toUInt32 &&& Int32.toUInt32 31)).toInt32) &&& 255)) 6 ((((v : Int32).toUInt32 >>> ((8 : Int32).toUInt32 &&& Int32.toUInt32 31)).toInt32) &&& 255)) 7 ((((v : Int32).toUInt32 >>> ((0 : Int32).toUInt32 &&& Int32.toUInt32 31)).toInt32) &&& 255))))]]) := hD
  refine lv_aload_n hx hb dX6_add_33 rfl (lv_at hl 1 rfl) ?_
  refine lv_dup hx hb dX6_add_34 rfl ?_
  refine va_get (D := g.1) (ci := 6) (v := .int 7) (C := RX6) (T := TX6) (N := 7) hx hb hts izRX6 hown hK hP 0 rfl rfl 1 (by decide) (hts _ k293) (fun _ h9 => h9) rfl dX6_add_35 ?_
  refine lv_iconst (v := 1) hx hb dX6_add_38 (by decide) ?_
  refine lv_iadd hx hb dX6_add_39 ?_
  refine ztop (r := 8) (by decide) ?_
  refine va_put (D := g.1) (ci := 6) (v := .int 8) (ty := .int) (C := RX6) (T := TX6) (N := 7) hx hb hts izRX6 tyX6 tyX6_ok nmX6 hown hK hP hD hS 0 rfl rfl 1 (by decide) (hts _ k293) (fun _ h9 => h9) rfl (by decide +kernel) rfl rfl (Nat.le_of_ble_eq_true rfl) dX6_add_40 (fun H locs hP hD hS => ?_)
  have hP : va_P g.1 vwCl (List.flatten [[(o, .inr (6, [.ref ab, .int 8, .int len, .int knd, .int beg, .int nxt, .int flt])), (ab, .inl (g.2 0, 400, .inl (upd (upd (upd (upd fb 4 ((((v : Int32).toUInt32 >>> ((24 : Int32).toUInt32 &&& Int32.toUInt32 31)).toInt32) &&& 255)) 5 ((((v : Int32).toUInt32 >>> ((16 : Int32).toUInt32 &&& Int32.toUInt32 31)).toInt32) &&& 255)) 6 ((((v : Int32).toUInt32 >>> ((8 : Int32).toUInt32 &&& Int32.toUInt32 31)).toInt32) &&& 255)) 7 ((((v : Int32).toUInt32 >>> ((0 : Int32).toUInt32 &&& Int32.toUInt32 31)).toInt32) &&& 255))))]]) H := hP
  have hD : va_D A (List.flatten [[(o, .inr (6, [.ref ab, .int 8, .int len, .int knd, .int beg, .int nxt, .int flt])), (ab, .inl (g.2 0, 400, .inl (upd (upd (upd (upd fb 4 ((((v : Int32).toUInt32 >>> ((24 : Int32).toUInt32 &&& Int32.toUInt32 31)).toInt32) &&& 255)) 5 ((((v : Int32).toUInt32 >>> ((16 : Int32).toUInt32 &&& Int32.toUInt32 31)).toInt32) &&& 255)) 6 ((((v : Int32).toUInt32 >>> ((8 : Int32).toUInt32 &&& Int32.toUInt32 31)).toInt32) &&& 255)) 7 ((((v : Int32).toUInt32 >>> ((0 : Int32).toUInt32 &&& Int32.toUInt32 31)).toInt32) &&& 255))))]]) := hD
  refine lv_iinc (v := (-8)) (lv' := [(2, .int (-8)), (0, .ref o), (1, .int v)]) hx hb dX6_add_43 hl (k := 0) rfl (by decide) (by decide) rfl (fun ls hl => ?_)
  refine lv_goto (tgt := 3) hx hb dX6_add_46 (by decide) ?_
  refine lv_iload_n hx hb dX6_add_3 rfl (lv_at hl 0 rfl) ?_
  refine lv_if_lt (tgt := 49) hx hb dX6_add_4 (by decide) (fun _ => ?_) (fun c9 => absurd (by decide) c9)
  have hP : va_P g.1 vwCl (List.flatten [bTape g o ab 8 len knd beg nxt flt (upd (upd (upd (upd fb 4 ((((v : Int32).toUInt32 >>> ((24 : Int32).toUInt32 &&& Int32.toUInt32 31)).toInt32) &&& 255)) 5 ((((v : Int32).toUInt32 >>> ((16 : Int32).toUInt32 &&& Int32.toUInt32 31)).toInt32) &&& 255)) 6 ((((v : Int32).toUInt32 >>> ((8 : Int32).toUInt32 &&& Int32.toUInt32 31)).toInt32) &&& 255)) 7 ((((v : Int32).toUInt32 >>> ((0 : Int32).toUInt32 &&& Int32.toUInt32 31)).toInt32) &&& 255))]) H := hP
  have hD : va_D A (List.flatten [bTape g o ab 8 len knd beg nxt flt (upd (upd (upd (upd fb 4 ((((v : Int32).toUInt32 >>> ((24 : Int32).toUInt32 &&& Int32.toUInt32 31)).toInt32) &&& 255)) 5 ((((v : Int32).toUInt32 >>> ((16 : Int32).toUInt32 &&& Int32.toUInt32 31)).toInt32) &&& 255)) 6 ((((v : Int32).toUInt32 >>> ((8 : Int32).toUInt32 &&& Int32.toUInt32 31)).toInt32) &&& 255)) 7 ((((v : Int32).toUInt32 >>> ((0 : Int32).toUInt32 &&& Int32.toUInt32 31)).toInt32) &&& 255))]) := hD
  exact mret_v hx hb hr hlocks hS (Nat.le_of_ble_eq_true rfl) (Nat.le_of_ble_eq_true rfl) dX6_add_49 (upd (upd (upd (upd fb 4 ((((v : Int32).toUInt32 >>> ((24 : Int32).toUInt32 &&& Int32.toUInt32 31)).toInt32) &&& 255)) 5 ((((v : Int32).toUInt32 >>> ((16 : Int32).toUInt32 &&& Int32.toUInt32 31)).toInt32) &&& 255)) 6 ((((v : Int32).toUInt32 >>> ((8 : Int32).toUInt32 &&& Int32.toUInt32 31)).toInt32) &&& 255)) 7 ((((v : Int32).toUInt32 >>> ((0 : Int32).toUInt32 &&& Int32.toUInt32 31)).toInt32) &&& 255)) rfl trivial hP hD
set_option maxRecDepth 100000 in
set_option maxHeartbeats 4000000 in
theorem c_Tape_add8 (l : Launch) (g : zG) (o : Nat) (ab : Nat) (len : Int32) (knd : Int32) (beg : Int32) (nxt : Int32) (flt : Int32) (fb : Nat → Int32) (v : Int32)  : zM g l yX6_add (Cond.code yX6_add cX6_add 3 none :: zB) ({ frames := 0, cells := 0, slots := 0, locals := 0 } : Room) [.ref o, .int v] [bTape g o ab 8 len knd beg nxt flt fb] (fun (fb2 : Nat → Int32) => none) (fun (fb2 : Nat → Int32) => True) (fun (fb2 : Nat → Int32) => [bTape g o ab 12 len knd beg nxt flt fb2]) := by
  refine zM.of (cc := cX6_add) (maxL := 3) (rt := none) (by decide) rfl (Nat.le_of_ble_eq_true rfl) ?_
  intro p e s m args below meth c A ls St hr hlocks hin hK hT hA hP hD hS hl
  obtain ⟨hx, hb, hml, hown, hts⟩ := id St
  have hl : lv_has ls 3 [(0, .ref o), (1, .int v)] := hl
  refine lv_bipush (v := 24) hx hb dX6_add_0 (by decide) ?_
  refine lv_istore_n (lv' := [(2, .int 24), (0, .ref o), (1, .int v)]) hx hb dX6_add_2 rfl hl (by decide) rfl (fun ls hl => ?_)
  refine lv_iload_n hx hb dX6_add_3 rfl (lv_at hl 0 rfl) ?_
  refine lv_if_lt (tgt := 49) hx hb dX6_add_4 (by decide) (fun c1 => absurd c1 (by decide)) (fun _ => ?_)
  refine lv_aload_n hx hb dX6_add_7 rfl (lv_at hl 1 rfl) ?_
  refine va_get (D := g.1) (ci := 6) (v := .int 8) (C := RX6) (T := TX6) (N := 7) hx hb hts izRX6 hown hK hP 0 rfl rfl 1 (by decide) (hts _ k293) (fun _ h9 => h9) rfl dX6_add_8 ?_
  refine lv_sipush (v := 400) hx hb dX6_add_11 (by decide) ?_
  refine lv_icmp_ge (tgt := 49) hx hb dX6_add_14 (by decide) (fun c2 => absurd c2 (by decide)) (fun _ => ?_)
  refine lv_aload_n hx hb dX6_add_17 rfl (lv_at hl 1 rfl) ?_
  refine va_get (D := g.1) (ci := 6) (v := .ref ab) (C := RX6) (T := TX6) (N := 7) hx hb hts izRX6 hown hK hP 0 rfl rfl 0 (by decide) (hts _ k214) (fun _ h9 => h9) rfl dX6_add_18 ?_
  refine lv_aload_n hx hb dX6_add_21 rfl (lv_at hl 1 rfl) ?_
  refine va_get (D := g.1) (ci := 6) (v := .int 8) (C := RX6) (T := TX6) (N := 7) hx hb hts izRX6 hown hK hP 0 rfl rfl 1 (by decide) (hts _ k293) (fun _ h9 => h9) rfl dX6_add_22 ?_
  refine lv_iload_n hx hb dX6_add_25 rfl (lv_at hl 2 rfl) ?_
  refine lv_iload_n hx hb dX6_add_26 rfl (lv_at hl 0 rfl) ?_
  refine lv_iushr (v := ((v : Int32).toUInt32 >>> ((24 : Int32).toUInt32 &&& Int32.toUInt32 31)).toInt32) hx hb dX6_add_27 rfl ?_
  refine lv_sipush (v := 255) hx hb dX6_add_28 (by decide) ?_
  refine lv_iand hx hb dX6_add_31 ?_
  refine va_iast hx hb hK hP hD hS 1 0 rfl rfl (zin rfl) dX6_add_32 (fun H locs hP hD hS => ?_)
  have hP : va_P g.1 vwCl (List.flatten [[(o, .inr (6, [.ref ab, .int 8, .int len, .int knd, .int beg, .int nxt, .int flt])), (ab, .inl (g.2 0, 400, .inl (upd fb 8 ((((v : Int32).toUInt32 >>> ((24 : Int32).toUInt32 &&& Int32.toUInt32 31)).toInt32) &&& 255))))]]) H := hP
  have hD : va_D A (List.flatten [[(o, .inr (6, [.ref ab, .int 8, .int len, .int knd, .int beg, .int nxt, .int flt])), (ab, .inl (g.2 0, 400, .inl (upd fb 8 ((((v : Int32).toUInt32 >>> ((24 : Int32).toUInt32 &&& Int32.toUInt32 31)).toInt32) &&& 255))))]]) := hD
  refine lv_aload_n hx hb dX6_add_33 rfl (lv_at hl 1 rfl) ?_
  refine lv_dup hx hb dX6_add_34 rfl ?_
  refine va_get (D := g.1) (ci := 6) (v := .int 8) (C := RX6) (T := TX6) (N := 7) hx hb hts izRX6 hown hK hP 0 rfl rfl 1 (by decide) (hts _ k293) (fun _ h9 => h9) rfl dX6_add_35 ?_
  refine lv_iconst (v := 1) hx hb dX6_add_38 (by decide) ?_
  refine lv_iadd hx hb dX6_add_39 ?_
  refine ztop (r := 9) (by decide) ?_
  refine va_put (D := g.1) (ci := 6) (v := .int 9) (ty := .int) (C := RX6) (T := TX6) (N := 7) hx hb hts izRX6 tyX6 tyX6_ok nmX6 hown hK hP hD hS 0 rfl rfl 1 (by decide) (hts _ k293) (fun _ h9 => h9) rfl (by decide +kernel) rfl rfl (Nat.le_of_ble_eq_true rfl) dX6_add_40 (fun H locs hP hD hS => ?_)
  have hP : va_P g.1 vwCl (List.flatten [[(o, .inr (6, [.ref ab, .int 9, .int len, .int knd, .int beg, .int nxt, .int flt])), (ab, .inl (g.2 0, 400, .inl (upd fb 8 ((((v : Int32).toUInt32 >>> ((24 : Int32).toUInt32 &&& Int32.toUInt32 31)).toInt32) &&& 255))))]]) H := hP
  have hD : va_D A (List.flatten [[(o, .inr (6, [.ref ab, .int 9, .int len, .int knd, .int beg, .int nxt, .int flt])), (ab, .inl (g.2 0, 400, .inl (upd fb 8 ((((v : Int32).toUInt32 >>> ((24 : Int32).toUInt32 &&& Int32.toUInt32 31)).toInt32) &&& 255))))]]) := hD
  refine lv_iinc (v := 16) (lv' := [(2, .int 16), (0, .ref o), (1, .int v)]) hx hb dX6_add_43 hl (k := 0) rfl (by decide) (by decide) rfl (fun ls hl => ?_)
  refine lv_goto (tgt := 3) hx hb dX6_add_46 (by decide) ?_
  refine lv_iload_n hx hb dX6_add_3 rfl (lv_at hl 0 rfl) ?_
  refine lv_if_lt (tgt := 49) hx hb dX6_add_4 (by decide) (fun c3 => absurd c3 (by decide)) (fun _ => ?_)
  refine lv_aload_n hx hb dX6_add_7 rfl (lv_at hl 1 rfl) ?_
  refine va_get (D := g.1) (ci := 6) (v := .int 9) (C := RX6) (T := TX6) (N := 7) hx hb hts izRX6 hown hK hP 0 rfl rfl 1 (by decide) (hts _ k293) (fun _ h9 => h9) rfl dX6_add_8 ?_
  refine lv_sipush (v := 400) hx hb dX6_add_11 (by decide) ?_
  refine lv_icmp_ge (tgt := 49) hx hb dX6_add_14 (by decide) (fun c4 => absurd c4 (by decide)) (fun _ => ?_)
  refine lv_aload_n hx hb dX6_add_17 rfl (lv_at hl 1 rfl) ?_
  refine va_get (D := g.1) (ci := 6) (v := .ref ab) (C := RX6) (T := TX6) (N := 7) hx hb hts izRX6 hown hK hP 0 rfl rfl 0 (by decide) (hts _ k214) (fun _ h9 => h9) rfl dX6_add_18 ?_
  refine lv_aload_n hx hb dX6_add_21 rfl (lv_at hl 1 rfl) ?_
  refine va_get (D := g.1) (ci := 6) (v := .int 9) (C := RX6) (T := TX6) (N := 7) hx hb hts izRX6 hown hK hP 0 rfl rfl 1 (by decide) (hts _ k293) (fun _ h9 => h9) rfl dX6_add_22 ?_
  refine lv_iload_n hx hb dX6_add_25 rfl (lv_at hl 2 rfl) ?_
  refine lv_iload_n hx hb dX6_add_26 rfl (lv_at hl 0 rfl) ?_
  refine lv_iushr (v := ((v : Int32).toUInt32 >>> ((16 : Int32).toUInt32 &&& Int32.toUInt32 31)).toInt32) hx hb dX6_add_27 rfl ?_
  refine lv_sipush (v := 255) hx hb dX6_add_28 (by decide) ?_
  refine lv_iand hx hb dX6_add_31 ?_
  refine va_iast hx hb hK hP hD hS 1 0 rfl rfl (zin rfl) dX6_add_32 (fun H locs hP hD hS => ?_)
  have hP : va_P g.1 vwCl (List.flatten [[(o, .inr (6, [.ref ab, .int 9, .int len, .int knd, .int beg, .int nxt, .int flt])), (ab, .inl (g.2 0, 400, .inl (upd (upd fb 8 ((((v : Int32).toUInt32 >>> ((24 : Int32).toUInt32 &&& Int32.toUInt32 31)).toInt32) &&& 255)) 9 ((((v : Int32).toUInt32 >>> ((16 : Int32).toUInt32 &&& Int32.toUInt32 31)).toInt32) &&& 255))))]]) H := hP
  have hD : va_D A (List.flatten [[(o, .inr (6, [.ref ab, .int 9, .int len, .int knd, .int beg, .int nxt, .int flt])), (ab, .inl (g.2 0, 400, .inl (upd (upd fb 8 ((((v : Int32).toUInt32 >>> ((24 : Int32).toUInt32 &&& Int32.toUInt32 31)).toInt32) &&& 255)) 9 ((((v : Int32).toUInt32 >>> ((16 : Int32).toUInt32 &&& Int32.toUInt32 31)).toInt32) &&& 255))))]]) := hD
  refine lv_aload_n hx hb dX6_add_33 rfl (lv_at hl 1 rfl) ?_
  refine lv_dup hx hb dX6_add_34 rfl ?_
  refine va_get (D := g.1) (ci := 6) (v := .int 9) (C := RX6) (T := TX6) (N := 7) hx hb hts izRX6 hown hK hP 0 rfl rfl 1 (by decide) (hts _ k293) (fun _ h9 => h9) rfl dX6_add_35 ?_
  refine lv_iconst (v := 1) hx hb dX6_add_38 (by decide) ?_
  refine lv_iadd hx hb dX6_add_39 ?_
  refine ztop (r := 10) (by decide) ?_
  refine va_put (D := g.1) (ci := 6) (v := .int 10) (ty := .int) (C := RX6) (T := TX6) (N := 7) hx hb hts izRX6 tyX6 tyX6_ok nmX6 hown hK hP hD hS 0 rfl rfl 1 (by decide) (hts _ k293) (fun _ h9 => h9) rfl (by decide +kernel) rfl rfl (Nat.le_of_ble_eq_true rfl) dX6_add_40 (fun H locs hP hD hS => ?_)
  have hP : va_P g.1 vwCl (List.flatten [[(o, .inr (6, [.ref ab, .int 10, .int len, .int knd, .int beg, .int nxt, .int flt])), (ab, .inl (g.2 0, 400, .inl (upd (upd fb 8 ((((v : Int32).toUInt32 >>> ((24 : Int32).toUInt32 &&& Int32.toUInt32 31)).toInt32) &&& 255)) 9 ((((v : Int32).toUInt32 >>> ((16 : Int32).toUInt32 &&& Int32.toUInt32 31)).toInt32) &&& 255))))]]) H := hP
  have hD : va_D A (List.flatten [[(o, .inr (6, [.ref ab, .int 10, .int len, .int knd, .int beg, .int nxt, .int flt])), (ab, .inl (g.2 0, 400, .inl (upd (upd fb 8 ((((v : Int32).toUInt32 >>> ((24 : Int32).toUInt32 &&& Int32.toUInt32 31)).toInt32) &&& 255)) 9 ((((v : Int32).toUInt32 >>> ((16 : Int32).toUInt32 &&& Int32.toUInt32 31)).toInt32) &&& 255))))]]) := hD
  refine lv_iinc (v := 8) (lv' := [(2, .int 8), (0, .ref o), (1, .int v)]) hx hb dX6_add_43 hl (k := 0) rfl (by decide) (by decide) rfl (fun ls hl => ?_)
  refine lv_goto (tgt := 3) hx hb dX6_add_46 (by decide) ?_
  refine lv_iload_n hx hb dX6_add_3 rfl (lv_at hl 0 rfl) ?_
  refine lv_if_lt (tgt := 49) hx hb dX6_add_4 (by decide) (fun c5 => absurd c5 (by decide)) (fun _ => ?_)
  refine lv_aload_n hx hb dX6_add_7 rfl (lv_at hl 1 rfl) ?_
  refine va_get (D := g.1) (ci := 6) (v := .int 10) (C := RX6) (T := TX6) (N := 7) hx hb hts izRX6 hown hK hP 0 rfl rfl 1 (by decide) (hts _ k293) (fun _ h9 => h9) rfl dX6_add_8 ?_
  refine lv_sipush (v := 400) hx hb dX6_add_11 (by decide) ?_
  refine lv_icmp_ge (tgt := 49) hx hb dX6_add_14 (by decide) (fun c6 => absurd c6 (by decide)) (fun _ => ?_)
  refine lv_aload_n hx hb dX6_add_17 rfl (lv_at hl 1 rfl) ?_
  refine va_get (D := g.1) (ci := 6) (v := .ref ab) (C := RX6) (T := TX6) (N := 7) hx hb hts izRX6 hown hK hP 0 rfl rfl 0 (by decide) (hts _ k214) (fun _ h9 => h9) rfl dX6_add_18 ?_
  refine lv_aload_n hx hb dX6_add_21 rfl (lv_at hl 1 rfl) ?_
  refine va_get (D := g.1) (ci := 6) (v := .int 10) (C := RX6) (T := TX6) (N := 7) hx hb hts izRX6 hown hK hP 0 rfl rfl 1 (by decide) (hts _ k293) (fun _ h9 => h9) rfl dX6_add_22 ?_
  refine lv_iload_n hx hb dX6_add_25 rfl (lv_at hl 2 rfl) ?_
  refine lv_iload_n hx hb dX6_add_26 rfl (lv_at hl 0 rfl) ?_
  refine lv_iushr (v := ((v : Int32).toUInt32 >>> ((8 : Int32).toUInt32 &&& Int32.toUInt32 31)).toInt32) hx hb dX6_add_27 rfl ?_
  refine lv_sipush (v := 255) hx hb dX6_add_28 (by decide) ?_
  refine lv_iand hx hb dX6_add_31 ?_
  refine va_iast hx hb hK hP hD hS 1 0 rfl rfl (zin rfl) dX6_add_32 (fun H locs hP hD hS => ?_)
  have hP : va_P g.1 vwCl (List.flatten [[(o, .inr (6, [.ref ab, .int 10, .int len, .int knd, .int beg, .int nxt, .int flt])), (ab, .inl (g.2 0, 400, .inl (upd (upd (upd fb 8 ((((v : Int32).toUInt32 >>> ((24 : Int32).toUInt32 &&& Int32.toUInt32 31)).toInt32) &&& 255)) 9 ((((v : Int32).toUInt32 >>> ((16 : Int32).toUInt32 &&& Int32.toUInt32 31)).toInt32) &&& 255)) 10 ((((v : Int32).toUInt32 >>> ((8 : Int32).toUInt32 &&& Int32.toUInt32 31)).toInt32) &&& 255))))]]) H := hP
  have hD : va_D A (List.flatten [[(o, .inr (6, [.ref ab, .int 10, .int len, .int knd, .int beg, .int nxt, .int flt])), (ab, .inl (g.2 0, 400, .inl (upd (upd (upd fb 8 ((((v : Int32).toUInt32 >>> ((24 : Int32).toUInt32 &&& Int32.toUInt32 31)).toInt32) &&& 255)) 9 ((((v : Int32).toUInt32 >>> ((16 : Int32).toUInt32 &&& Int32.toUInt32 31)).toInt32) &&& 255)) 10 ((((v : Int32).toUInt32 >>> ((8 : Int32).toUInt32 &&& Int32.toUInt32 31)).toInt32) &&& 255))))]]) := hD
  refine lv_aload_n hx hb dX6_add_33 rfl (lv_at hl 1 rfl) ?_
  refine lv_dup hx hb dX6_add_34 rfl ?_
  refine va_get (D := g.1) (ci := 6) (v := .int 10) (C := RX6) (T := TX6) (N := 7) hx hb hts izRX6 hown hK hP 0 rfl rfl 1 (by decide) (hts _ k293) (fun _ h9 => h9) rfl dX6_add_35 ?_
  refine lv_iconst (v := 1) hx hb dX6_add_38 (by decide) ?_
  refine lv_iadd hx hb dX6_add_39 ?_
  refine ztop (r := 11) (by decide) ?_
  refine va_put (D := g.1) (ci := 6) (v := .int 11) (ty := .int) (C := RX6) (T := TX6) (N := 7) hx hb hts izRX6 tyX6 tyX6_ok nmX6 hown hK hP hD hS 0 rfl rfl 1 (by decide) (hts _ k293) (fun _ h9 => h9) rfl (by decide +kernel) rfl rfl (Nat.le_of_ble_eq_true rfl) dX6_add_40 (fun H locs hP hD hS => ?_)
  have hP : va_P g.1 vwCl (List.flatten [[(o, .inr (6, [.ref ab, .int 11, .int len, .int knd, .int beg, .int nxt, .int flt])), (ab, .inl (g.2 0, 400, .inl (upd (upd (upd fb 8 ((((v : Int32).toUInt32 >>> ((24 : Int32).toUInt32 &&& Int32.toUInt32 31)).toInt32) &&& 255)) 9 ((((v : Int32).toUInt32 >>> ((16 : Int32).toUInt32 &&& Int32.toUInt32 31)).toInt32) &&& 255)) 10 ((((v : Int32).toUInt32 >>> ((8 : Int32).toUInt32 &&& Int32.toUInt32 31)).toInt32) &&& 255))))]]) H := hP
  have hD : va_D A (List.flatten [[(o, .inr (6, [.ref ab, .int 11, .int len, .int knd, .int beg, .int nxt, .int flt])), (ab, .inl (g.2 0, 400, .inl (upd (upd (upd fb 8 ((((v : Int32).toUInt32 >>> ((24 : Int32).toUInt32 &&& Int32.toUInt32 31)).toInt32) &&& 255)) 9 ((((v : Int32).toUInt32 >>> ((16 : Int32).toUInt32 &&& Int32.toUInt32 31)).toInt32) &&& 255)) 10 ((((v : Int32).toUInt32 >>> ((8 : Int32).toUInt32 &&& Int32.toUInt32 31)).toInt32) &&& 255))))]]) := hD
  refine lv_iinc (v := 0) (lv' := [(2, .int 0), (0, .ref o), (1, .int v)]) hx hb dX6_add_43 hl (k := 0) rfl (by decide) (by decide) rfl (fun ls hl => ?_)
  refine lv_goto (tgt := 3) hx hb dX6_add_46 (by decide) ?_
  refine lv_iload_n hx hb dX6_add_3 rfl (lv_at hl 0 rfl) ?_
  refine lv_if_lt (tgt := 49) hx hb dX6_add_4 (by decide) (fun c7 => absurd c7 (by decide)) (fun _ => ?_)
  refine lv_aload_n hx hb dX6_add_7 rfl (lv_at hl 1 rfl) ?_
  refine va_get (D := g.1) (ci := 6) (v := .int 11) (C := RX6) (T := TX6) (N := 7) hx hb hts izRX6 hown hK hP 0 rfl rfl 1 (by decide) (hts _ k293) (fun _ h9 => h9) rfl dX6_add_8 ?_
  refine lv_sipush (v := 400) hx hb dX6_add_11 (by decide) ?_
  refine lv_icmp_ge (tgt := 49) hx hb dX6_add_14 (by decide) (fun c8 => absurd c8 (by decide)) (fun _ => ?_)
  refine lv_aload_n hx hb dX6_add_17 rfl (lv_at hl 1 rfl) ?_
  refine va_get (D := g.1) (ci := 6) (v := .ref ab) (C := RX6) (T := TX6) (N := 7) hx hb hts izRX6 hown hK hP 0 rfl rfl 0 (by decide) (hts _ k214) (fun _ h9 => h9) rfl dX6_add_18 ?_
  refine lv_aload_n hx hb dX6_add_21 rfl (lv_at hl 1 rfl) ?_
  refine va_get (D := g.1) (ci := 6) (v := .int 11) (C := RX6) (T := TX6) (N := 7) hx hb hts izRX6 hown hK hP 0 rfl rfl 1 (by decide) (hts _ k293) (fun _ h9 => h9) rfl dX6_add_22 ?_
  refine lv_iload_n hx hb dX6_add_25 rfl (lv_at hl 2 rfl) ?_
  refine lv_iload_n hx hb dX6_add_26 rfl (lv_at hl 0 rfl) ?_
  refine lv_iushr (v := ((v : Int32).toUInt32 >>> ((0 : Int32).toUInt32 &&& Int32.toUInt32 31)).toInt32) hx hb dX6_add_27 rfl ?_
  refine lv_sipush (v := 255) hx hb dX6_add_28 (by decide) ?_
  refine lv_iand hx hb dX6_add_31 ?_
  refine va_iast hx hb hK hP hD hS 1 0 rfl rfl (zin rfl) dX6_add_32 (fun H locs hP hD hS => ?_)
  have hP : va_P g.1 vwCl (List.flatten [[(o, .inr (6, [.ref ab, .int 11, .int len, .int knd, .int beg, .int nxt, .int flt])), (ab, .inl (g.2 0, 400, .inl (upd (upd (upd (upd fb 8 ((((v : Int32).toUInt32 >>> ((24 : Int32).toUInt32 &&& Int32.toUInt32 31)).toInt32) &&& 255)) 9 ((((v : Int32).toUInt32 >>> ((16 : Int32).toUInt32 &&& Int32.toUInt32 31)).toInt32) &&& 255)) 10 ((((v : Int32).toUInt32 >>> ((8 : Int32).toUInt32 &&& Int32.toUInt32 31)).toInt32) &&& 255)) 11 ((((v : Int32).toUInt32 >>> ((0 : Int32).toUInt32 &&& Int32.toUInt32 31)).toInt32) &&& 255))))]]) H := hP
  have hD : va_D A (List.flatten [[(o, .inr (6, [.ref ab, .int 11, .int len, .int knd, .int beg, .int nxt, .int flt])), (ab, .inl (g.2 0, 400, .inl (upd (upd (upd (upd fb 8 ((((v : Int32).toUInt32 >>> ((24 : Int32).toUInt32 &&& Int32.toUInt32 31)).toInt32) &&& 255)) 9 ((((v : Int32).toUInt32 >>> ((16 : Int32).toUInt32 &&& Int32.toUInt32 31)).toInt32) &&& 255)) 10 ((((v : Int32).toUInt32 >>> ((8 : Int32).toUInt32 &&& Int32.toUInt32 31)).toInt32) &&& 255)) 11 ((((v : Int32).toUInt32 >>> ((0 : Int32).toUInt32 &&& Int32.toUInt32 31)).toInt32) &&& 255))))]]) := hD
  refine lv_aload_n hx hb dX6_add_33 rfl (lv_at hl 1 rfl) ?_
  refine lv_dup hx hb dX6_add_34 rfl ?_
  refine va_get (D := g.1) (ci := 6) (v := .int 11) (C := RX6) (T := TX6) (N := 7) hx hb hts izRX6 hown hK hP 0 rfl rfl 1 (by decide) (hts _ k293) (fun _ h9 => h9) rfl dX6_add_35 ?_
  refine lv_iconst (v := 1) hx hb dX6_add_38 (by decide) ?_
  refine lv_iadd hx hb dX6_add_39 ?_
  refine ztop (r := 12) (by decide) ?_
  refine va_put (D := g.1) (ci := 6) (v := .int 12) (ty := .int) (C := RX6) (T := TX6) (N := 7) hx hb hts izRX6 tyX6 tyX6_ok nmX6 hown hK hP hD hS 0 rfl rfl 1 (by decide) (hts _ k293) (fun _ h9 => h9) rfl (by decide +kernel) rfl rfl (Nat.le_of_ble_eq_true rfl) dX6_add_40 (fun H locs hP hD hS => ?_)
  have hP : va_P g.1 vwCl (List.flatten [[(o, .inr (6, [.ref ab, .int 12, .int len, .int knd, .int beg, .int nxt, .int flt])), (ab, .inl (g.2 0, 400, .inl (upd (upd (upd (upd fb 8 ((((v : Int32).toUInt32 >>> ((24 : Int32).toUInt32 &&& Int32.toUInt32 31)).toInt32) &&& 255)) 9 ((((v : Int32).toUInt32 >>> ((16 : Int32).toUInt32 &&& Int32.toUInt32 31)).toInt32) &&& 255)) 10 ((((v : Int32).toUInt32 >>> ((8 : Int32).toUInt32 &&& Int32.toUInt32 31)).toInt32) &&& 255)) 11 ((((v : Int32).toUInt32 >>> ((0 : Int32).toUInt32 &&& Int32.toUInt32 31)).toInt32) &&& 255))))]]) H := hP
  have hD : va_D A (List.flatten [[(o, .inr (6, [.ref ab, .int 12, .int len, .int knd, .int beg, .int nxt, .int flt])), (ab, .inl (g.2 0, 400, .inl (upd (upd (upd (upd fb 8 ((((v : Int32).toUInt32 >>> ((24 : Int32).toUInt32 &&& Int32.toUInt32 31)).toInt32) &&& 255)) 9 ((((v : Int32).toUInt32 >>> ((16 : Int32).toUInt32 &&& Int32.toUInt32 31)).toInt32) &&& 255)) 10 ((((v : Int32).toUInt32 >>> ((8 : Int32).toUInt32 &&& Int32.toUInt32 31)).toInt32) &&& 255)) 11 ((((v : Int32).toUInt32 >>> ((0 : Int32).toUInt32 &&& Int32.toUInt32 31)).toInt32) &&& 255))))]]) := hD
  refine lv_iinc (v := (-8)) (lv' := [(2, .int (-8)), (0, .ref o), (1, .int v)]) hx hb dX6_add_43 hl (k := 0) rfl (by decide) (by decide) rfl (fun ls hl => ?_)
  refine lv_goto (tgt := 3) hx hb dX6_add_46 (by decide) ?_
  refine lv_iload_n hx hb dX6_add_3 rfl (lv_at hl 0 rfl) ?_
  refine lv_if_lt (tgt := 49) hx hb dX6_add_4 (by decide) (fun _ => ?_) (fun c9 => absurd (by decide) c9)
  have hP : va_P g.1 vwCl (List.flatten [bTape g o ab 12 len knd beg nxt flt (upd (upd (upd (upd fb 8 ((((v : Int32).toUInt32 >>> ((24 : Int32).toUInt32 &&& Int32.toUInt32 31)).toInt32) &&& 255)) 9 ((((v : Int32).toUInt32 >>> ((16 : Int32).toUInt32 &&& Int32.toUInt32 31)).toInt32) &&& 255)) 10 ((((v : Int32).toUInt32 >>> ((8 : Int32).toUInt32 &&& Int32.toUInt32 31)).toInt32) &&& 255)) 11 ((((v : Int32).toUInt32 >>> ((0 : Int32).toUInt32 &&& Int32.toUInt32 31)).toInt32) &&& 255))]) H := hP
  have hD : va_D A (List.flatten [bTape g o ab 12 len knd beg nxt flt (upd (upd (upd (upd fb 8 ((((v : Int32).toUInt32 >>> ((24 : Int32).toUInt32 &&& Int32.toUInt32 31)).toInt32) &&& 255)) 9 ((((v : Int32).toUInt32 >>> ((16 : Int32).toUInt32 &&& Int32.toUInt32 31)).toInt32) &&& 255)) 10 ((((v : Int32).toUInt32 >>> ((8 : Int32).toUInt32 &&& Int32.toUInt32 31)).toInt32) &&& 255)) 11 ((((v : Int32).toUInt32 >>> ((0 : Int32).toUInt32 &&& Int32.toUInt32 31)).toInt32) &&& 255))]) := hD
  exact mret_v hx hb hr hlocks hS (Nat.le_of_ble_eq_true rfl) (Nat.le_of_ble_eq_true rfl) dX6_add_49 (upd (upd (upd (upd fb 8 ((((v : Int32).toUInt32 >>> ((24 : Int32).toUInt32 &&& Int32.toUInt32 31)).toInt32) &&& 255)) 9 ((((v : Int32).toUInt32 >>> ((16 : Int32).toUInt32 &&& Int32.toUInt32 31)).toInt32) &&& 255)) 10 ((((v : Int32).toUInt32 >>> ((8 : Int32).toUInt32 &&& Int32.toUInt32 31)).toInt32) &&& 255)) 11 ((((v : Int32).toUInt32 >>> ((0 : Int32).toUInt32 &&& Int32.toUInt32 31)).toInt32) &&& 255)) rfl trivial hP hD
set_option maxRecDepth 100000 in
set_option maxHeartbeats 4000000 in
theorem c_Tape_add12 (l : Launch) (g : zG) (o : Nat) (ab : Nat) (len : Int32) (knd : Int32) (beg : Int32) (nxt : Int32) (flt : Int32) (fb : Nat → Int32) (v : Int32)  : zM g l yX6_add (Cond.code yX6_add cX6_add 3 none :: zB) ({ frames := 0, cells := 0, slots := 0, locals := 0 } : Room) [.ref o, .int v] [bTape g o ab 12 len knd beg nxt flt fb] (fun (fb2 : Nat → Int32) => none) (fun (fb2 : Nat → Int32) => True) (fun (fb2 : Nat → Int32) => [bTape g o ab 16 len knd beg nxt flt fb2]) := by
  refine zM.of (cc := cX6_add) (maxL := 3) (rt := none) (by decide) rfl (Nat.le_of_ble_eq_true rfl) ?_
  intro p e s m args below meth c A ls St hr hlocks hin hK hT hA hP hD hS hl
  obtain ⟨hx, hb, hml, hown, hts⟩ := id St
  have hl : lv_has ls 3 [(0, .ref o), (1, .int v)] := hl
  refine lv_bipush (v := 24) hx hb dX6_add_0 (by decide) ?_
  refine lv_istore_n (lv' := [(2, .int 24), (0, .ref o), (1, .int v)]) hx hb dX6_add_2 rfl hl (by decide) rfl (fun ls hl => ?_)
  refine lv_iload_n hx hb dX6_add_3 rfl (lv_at hl 0 rfl) ?_
  refine lv_if_lt (tgt := 49) hx hb dX6_add_4 (by decide) (fun c1 => absurd c1 (by decide)) (fun _ => ?_)
  refine lv_aload_n hx hb dX6_add_7 rfl (lv_at hl 1 rfl) ?_
  refine va_get (D := g.1) (ci := 6) (v := .int 12) (C := RX6) (T := TX6) (N := 7) hx hb hts izRX6 hown hK hP 0 rfl rfl 1 (by decide) (hts _ k293) (fun _ h9 => h9) rfl dX6_add_8 ?_
  refine lv_sipush (v := 400) hx hb dX6_add_11 (by decide) ?_
  refine lv_icmp_ge (tgt := 49) hx hb dX6_add_14 (by decide) (fun c2 => absurd c2 (by decide)) (fun _ => ?_)
  refine lv_aload_n hx hb dX6_add_17 rfl (lv_at hl 1 rfl) ?_
  refine va_get (D := g.1) (ci := 6) (v := .ref ab) (C := RX6) (T := TX6) (N := 7) hx hb hts izRX6 hown hK hP 0 rfl rfl 0 (by decide) (hts _ k214) (fun _ h9 => h9) rfl dX6_add_18 ?_
  refine lv_aload_n hx hb dX6_add_21 rfl (lv_at hl 1 rfl) ?_
  refine va_get (D := g.1) (ci := 6) (v := .int 12) (C := RX6) (T := TX6) (N := 7) hx hb hts izRX6 hown hK hP 0 rfl rfl 1 (by decide) (hts _ k293) (fun _ h9 => h9) rfl dX6_add_22 ?_
  refine lv_iload_n hx hb dX6_add_25 rfl (lv_at hl 2 rfl) ?_
  refine lv_iload_n hx hb dX6_add_26 rfl (lv_at hl 0 rfl) ?_
  refine lv_iushr (v := ((v : Int32).toUInt32 >>> ((24 : Int32).toUInt32 &&& Int32.toUInt32 31)).toInt32) hx hb dX6_add_27 rfl ?_
  refine lv_sipush (v := 255) hx hb dX6_add_28 (by decide) ?_
  refine lv_iand hx hb dX6_add_31 ?_
  refine va_iast hx hb hK hP hD hS 1 0 rfl rfl (zin rfl) dX6_add_32 (fun H locs hP hD hS => ?_)
  have hP : va_P g.1 vwCl (List.flatten [[(o, .inr (6, [.ref ab, .int 12, .int len, .int knd, .int beg, .int nxt, .int flt])), (ab, .inl (g.2 0, 400, .inl (upd fb 12 ((((v : Int32).toUInt32 >>> ((24 : Int32).toUInt32 &&& Int32.toUInt32 31)).toInt32) &&& 255))))]]) H := hP
  have hD : va_D A (List.flatten [[(o, .inr (6, [.ref ab, .int 12, .int len, .int knd, .int beg, .int nxt, .int flt])), (ab, .inl (g.2 0, 400, .inl (upd fb 12 ((((v : Int32).toUInt32 >>> ((24 : Int32).toUInt32 &&& Int32.toUInt32 31)).toInt32) &&& 255))))]]) := hD
  refine lv_aload_n hx hb dX6_add_33 rfl (lv_at hl 1 rfl) ?_
  refine lv_dup hx hb dX6_add_34 rfl ?_
  refine va_get (D := g.1) (ci := 6) (v := .int 12) (C := RX6) (T := TX6) (N := 7) hx hb hts izRX6 hown hK hP 0 rfl rfl 1 (by decide) (hts _ k293) (fun _ h9 => h9) rfl dX6_add_35 ?_
  refine lv_iconst (v := 1) hx hb dX6_add_38 (by decide) ?_
  refine lv_iadd hx hb dX6_add_39 ?_
  refine ztop (r := 13) (by decide) ?_
  refine va_put (D := g.1) (ci := 6) (v := .int 13) (ty := .int) (C := RX6) (T := TX6) (N := 7) hx hb hts izRX6 tyX6 tyX6_ok nmX6 hown hK hP hD hS 0 rfl rfl 1 (by decide) (hts _ k293) (fun _ h9 => h9) rfl (by decide +kernel) rfl rfl (Nat.le_of_ble_eq_true rfl) dX6_add_40 (fun H locs hP hD hS => ?_)
  have hP : va_P g.1 vwCl (List.flatten [[(o, .inr (6, [.ref ab, .int 13, .int len, .int knd, .int beg, .int nxt, .int flt])), (ab, .inl (g.2 0, 400, .inl (upd fb 12 ((((v : Int32).toUInt32 >>> ((24 : Int32).toUInt32 &&& Int32.toUInt32 31)).toInt32) &&& 255))))]]) H := hP
  have hD : va_D A (List.flatten [[(o, .inr (6, [.ref ab, .int 13, .int len, .int knd, .int beg, .int nxt, .int flt])), (ab, .inl (g.2 0, 400, .inl (upd fb 12 ((((v : Int32).toUInt32 >>> ((24 : Int32).toUInt32 &&& Int32.toUInt32 31)).toInt32) &&& 255))))]]) := hD
  refine lv_iinc (v := 16) (lv' := [(2, .int 16), (0, .ref o), (1, .int v)]) hx hb dX6_add_43 hl (k := 0) rfl (by decide) (by decide) rfl (fun ls hl => ?_)
  refine lv_goto (tgt := 3) hx hb dX6_add_46 (by decide) ?_
  refine lv_iload_n hx hb dX6_add_3 rfl (lv_at hl 0 rfl) ?_
  refine lv_if_lt (tgt := 49) hx hb dX6_add_4 (by decide) (fun c3 => absurd c3 (by decide)) (fun _ => ?_)
  refine lv_aload_n hx hb dX6_add_7 rfl (lv_at hl 1 rfl) ?_
  refine va_get (D := g.1) (ci := 6) (v := .int 13) (C := RX6) (T := TX6) (N := 7) hx hb hts izRX6 hown hK hP 0 rfl rfl 1 (by decide) (hts _ k293) (fun _ h9 => h9) rfl dX6_add_8 ?_
  refine lv_sipush (v := 400) hx hb dX6_add_11 (by decide) ?_
  refine lv_icmp_ge (tgt := 49) hx hb dX6_add_14 (by decide) (fun c4 => absurd c4 (by decide)) (fun _ => ?_)
  refine lv_aload_n hx hb dX6_add_17 rfl (lv_at hl 1 rfl) ?_
  refine va_get (D := g.1) (ci := 6) (v := .ref ab) (C := RX6) (T := TX6) (N := 7) hx hb hts izRX6 hown hK hP 0 rfl rfl 0 (by decide) (hts _ k214) (fun _ h9 => h9) rfl dX6_add_18 ?_
  refine lv_aload_n hx hb dX6_add_21 rfl (lv_at hl 1 rfl) ?_
  refine va_get (D := g.1) (ci := 6) (v := .int 13) (C := RX6) (T := TX6) (N := 7) hx hb hts izRX6 hown hK hP 0 rfl rfl 1 (by decide) (hts _ k293) (fun _ h9 => h9) rfl dX6_add_22 ?_
  refine lv_iload_n hx hb dX6_add_25 rfl (lv_at hl 2 rfl) ?_
  refine lv_iload_n hx hb dX6_add_26 rfl (lv_at hl 0 rfl) ?_
  refine lv_iushr (v := ((v : Int32).toUInt32 >>> ((16 : Int32).toUInt32 &&& Int32.toUInt32 31)).toInt32) hx hb dX6_add_27 rfl ?_
  refine lv_sipush (v := 255) hx hb dX6_add_28 (by decide) ?_
  refine lv_iand hx hb dX6_add_31 ?_
  refine va_iast hx hb hK hP hD hS 1 0 rfl rfl (zin rfl) dX6_add_32 (fun H locs hP hD hS => ?_)
  have hP : va_P g.1 vwCl (List.flatten [[(o, .inr (6, [.ref ab, .int 13, .int len, .int knd, .int beg, .int nxt, .int flt])), (ab, .inl (g.2 0, 400, .inl (upd (upd fb 12 ((((v : Int32).toUInt32 >>> ((24 : Int32).toUInt32 &&& Int32.toUInt32 31)).toInt32) &&& 255)) 13 ((((v : Int32).toUInt32 >>> ((16 : Int32).toUInt32 &&& Int32.toUInt32 31)).toInt32) &&& 255))))]]) H := hP
  have hD : va_D A (List.flatten [[(o, .inr (6, [.ref ab, .int 13, .int len, .int knd, .int beg, .int nxt, .int flt])), (ab, .inl (g.2 0, 400, .inl (upd (upd fb 12 ((((v : Int32).toUInt32 >>> ((24 : Int32).toUInt32 &&& Int32.toUInt32 31)).toInt32) &&& 255)) 13 ((((v : Int32).toUInt32 >>> ((16 : Int32).toUInt32 &&& Int32.toUInt32 31)).toInt32) &&& 255))))]]) := hD
  refine lv_aload_n hx hb dX6_add_33 rfl (lv_at hl 1 rfl) ?_
  refine lv_dup hx hb dX6_add_34 rfl ?_
  refine va_get (D := g.1) (ci := 6) (v := .int 13) (C := RX6) (T := TX6) (N := 7) hx hb hts izRX6 hown hK hP 0 rfl rfl 1 (by decide) (hts _ k293) (fun _ h9 => h9) rfl dX6_add_35 ?_
  refine lv_iconst (v := 1) hx hb dX6_add_38 (by decide) ?_
  refine lv_iadd hx hb dX6_add_39 ?_
  refine ztop (r := 14) (by decide) ?_
  refine va_put (D := g.1) (ci := 6) (v := .int 14) (ty := .int) (C := RX6) (T := TX6) (N := 7) hx hb hts izRX6 tyX6 tyX6_ok nmX6 hown hK hP hD hS 0 rfl rfl 1 (by decide) (hts _ k293) (fun _ h9 => h9) rfl (by decide +kernel) rfl rfl (Nat.le_of_ble_eq_true rfl) dX6_add_40 (fun H locs hP hD hS => ?_)
  have hP : va_P g.1 vwCl (List.flatten [[(o, .inr (6, [.ref ab, .int 14, .int len, .int knd, .int beg, .int nxt, .int flt])), (ab, .inl (g.2 0, 400, .inl (upd (upd fb 12 ((((v : Int32).toUInt32 >>> ((24 : Int32).toUInt32 &&& Int32.toUInt32 31)).toInt32) &&& 255)) 13 ((((v : Int32).toUInt32 >>> ((16 : Int32).toUInt32 &&& Int32.toUInt32 31)).toInt32) &&& 255))))]]) H := hP
  have hD : va_D A (List.flatten [[(o, .inr (6, [.ref ab, .int 14, .int len, .int knd, .int beg, .int nxt, .int flt])), (ab, .inl (g.2 0, 400, .inl (upd (upd fb 12 ((((v : Int32).toUInt32 >>> ((24 : Int32).toUInt32 &&& Int32.toUInt32 31)).toInt32) &&& 255)) 13 ((((v : Int32).toUInt32 >>> ((16 : Int32).toUInt32 &&& Int32.toUInt32 31)).toInt32) &&& 255))))]]) := hD
  refine lv_iinc (v := 8) (lv' := [(2, .int 8), (0, .ref o), (1, .int v)]) hx hb dX6_add_43 hl (k := 0) rfl (by decide) (by decide) rfl (fun ls hl => ?_)
  refine lv_goto (tgt := 3) hx hb dX6_add_46 (by decide) ?_
  refine lv_iload_n hx hb dX6_add_3 rfl (lv_at hl 0 rfl) ?_
  refine lv_if_lt (tgt := 49) hx hb dX6_add_4 (by decide) (fun c5 => absurd c5 (by decide)) (fun _ => ?_)
  refine lv_aload_n hx hb dX6_add_7 rfl (lv_at hl 1 rfl) ?_
  refine va_get (D := g.1) (ci := 6) (v := .int 14) (C := RX6) (T := TX6) (N := 7) hx hb hts izRX6 hown hK hP 0 rfl rfl 1 (by decide) (hts _ k293) (fun _ h9 => h9) rfl dX6_add_8 ?_
  refine lv_sipush (v := 400) hx hb dX6_add_11 (by decide) ?_
  refine lv_icmp_ge (tgt := 49) hx hb dX6_add_14 (by decide) (fun c6 => absurd c6 (by decide)) (fun _ => ?_)
  refine lv_aload_n hx hb dX6_add_17 rfl (lv_at hl 1 rfl) ?_
  refine va_get (D := g.1) (ci := 6) (v := .ref ab) (C := RX6) (T := TX6) (N := 7) hx hb hts izRX6 hown hK hP 0 rfl rfl 0 (by decide) (hts _ k214) (fun _ h9 => h9) rfl dX6_add_18 ?_
  refine lv_aload_n hx hb dX6_add_21 rfl (lv_at hl 1 rfl) ?_
  refine va_get (D := g.1) (ci := 6) (v := .int 14) (C := RX6) (T := TX6) (N := 7) hx hb hts izRX6 hown hK hP 0 rfl rfl 1 (by decide) (hts _ k293) (fun _ h9 => h9) rfl dX6_add_22 ?_
  refine lv_iload_n hx hb dX6_add_25 rfl (lv_at hl 2 rfl) ?_
  refine lv_iload_n hx hb dX6_add_26 rfl (lv_at hl 0 rfl) ?_
  refine lv_iushr (v := ((v : Int32).toUInt32 >>> ((8 : Int32).toUInt32 &&& Int32.toUInt32 31)).toInt32) hx hb dX6_add_27 rfl ?_
  refine lv_sipush (v := 255) hx hb dX6_add_28 (by decide) ?_
  refine lv_iand hx hb dX6_add_31 ?_
  refine va_iast hx hb hK hP hD hS 1 0 rfl rfl (zin rfl) dX6_add_32 (fun H locs hP hD hS => ?_)
  have hP : va_P g.1 vwCl (List.flatten [[(o, .inr (6, [.ref ab, .int 14, .int len, .int knd, .int beg, .int nxt, .int flt])), (ab, .inl (g.2 0, 400, .inl (upd (upd (upd fb 12 ((((v : Int32).toUInt32 >>> ((24 : Int32).toUInt32 &&& Int32.toUInt32 31)).toInt32) &&& 255)) 13 ((((v : Int32).toUInt32 >>> ((16 : Int32).toUInt32 &&& Int32.toUInt32 31)).toInt32) &&& 255)) 14 ((((v : Int32).toUInt32 >>> ((8 : Int32).toUInt32 &&& Int32.toUInt32 31)).toInt32) &&& 255))))]]) H := hP
  have hD : va_D A (List.flatten [[(o, .inr (6, [.ref ab, .int 14, .int len, .int knd, .int beg, .int nxt, .int flt])), (ab, .inl (g.2 0, 400, .inl (upd (upd (upd fb 12 ((((v : Int32).toUInt32 >>> ((24 : Int32).toUInt32 &&& Int32.toUInt32 31)).toInt32) &&& 255)) 13 ((((v : Int32).toUInt32 >>> ((16 : Int32).toUInt32 &&& Int32.toUInt32 31)).toInt32) &&& 255)) 14 ((((v : Int32).toUInt32 >>> ((8 : Int32).toUInt32 &&& Int32.toUInt32 31)).toInt32) &&& 255))))]]) := hD
  refine lv_aload_n hx hb dX6_add_33 rfl (lv_at hl 1 rfl) ?_
  refine lv_dup hx hb dX6_add_34 rfl ?_
  refine va_get (D := g.1) (ci := 6) (v := .int 14) (C := RX6) (T := TX6) (N := 7) hx hb hts izRX6 hown hK hP 0 rfl rfl 1 (by decide) (hts _ k293) (fun _ h9 => h9) rfl dX6_add_35 ?_
  refine lv_iconst (v := 1) hx hb dX6_add_38 (by decide) ?_
  refine lv_iadd hx hb dX6_add_39 ?_
  refine ztop (r := 15) (by decide) ?_
  refine va_put (D := g.1) (ci := 6) (v := .int 15) (ty := .int) (C := RX6) (T := TX6) (N := 7) hx hb hts izRX6 tyX6 tyX6_ok nmX6 hown hK hP hD hS 0 rfl rfl 1 (by decide) (hts _ k293) (fun _ h9 => h9) rfl (by decide +kernel) rfl rfl (Nat.le_of_ble_eq_true rfl) dX6_add_40 (fun H locs hP hD hS => ?_)
  have hP : va_P g.1 vwCl (List.flatten [[(o, .inr (6, [.ref ab, .int 15, .int len, .int knd, .int beg, .int nxt, .int flt])), (ab, .inl (g.2 0, 400, .inl (upd (upd (upd fb 12 ((((v : Int32).toUInt32 >>> ((24 : Int32).toUInt32 &&& Int32.toUInt32 31)).toInt32) &&& 255)) 13 ((((v : Int32).toUInt32 >>> ((16 : Int32).toUInt32 &&& Int32.toUInt32 31)).toInt32) &&& 255)) 14 ((((v : Int32).toUInt32 >>> ((8 : Int32).toUInt32 &&& Int32.toUInt32 31)).toInt32) &&& 255))))]]) H := hP
  have hD : va_D A (List.flatten [[(o, .inr (6, [.ref ab, .int 15, .int len, .int knd, .int beg, .int nxt, .int flt])), (ab, .inl (g.2 0, 400, .inl (upd (upd (upd fb 12 ((((v : Int32).toUInt32 >>> ((24 : Int32).toUInt32 &&& Int32.toUInt32 31)).toInt32) &&& 255)) 13 ((((v : Int32).toUInt32 >>> ((16 : Int32).toUInt32 &&& Int32.toUInt32 31)).toInt32) &&& 255)) 14 ((((v : Int32).toUInt32 >>> ((8 : Int32).toUInt32 &&& Int32.toUInt32 31)).toInt32) &&& 255))))]]) := hD
  refine lv_iinc (v := 0) (lv' := [(2, .int 0), (0, .ref o), (1, .int v)]) hx hb dX6_add_43 hl (k := 0) rfl (by decide) (by decide) rfl (fun ls hl => ?_)
  refine lv_goto (tgt := 3) hx hb dX6_add_46 (by decide) ?_
  refine lv_iload_n hx hb dX6_add_3 rfl (lv_at hl 0 rfl) ?_
  refine lv_if_lt (tgt := 49) hx hb dX6_add_4 (by decide) (fun c7 => absurd c7 (by decide)) (fun _ => ?_)
  refine lv_aload_n hx hb dX6_add_7 rfl (lv_at hl 1 rfl) ?_
  refine va_get (D := g.1) (ci := 6) (v := .int 15) (C := RX6) (T := TX6) (N := 7) hx hb hts izRX6 hown hK hP 0 rfl rfl 1 (by decide) (hts _ k293) (fun _ h9 => h9) rfl dX6_add_8 ?_
  refine lv_sipush (v := 400) hx hb dX6_add_11 (by decide) ?_
  refine lv_icmp_ge (tgt := 49) hx hb dX6_add_14 (by decide) (fun c8 => absurd c8 (by decide)) (fun _ => ?_)
  refine lv_aload_n hx hb dX6_add_17 rfl (lv_at hl 1 rfl) ?_
  refine va_get (D := g.1) (ci := 6) (v := .ref ab) (C := RX6) (T := TX6) (N := 7) hx hb hts izRX6 hown hK hP 0 rfl rfl 0 (by decide) (hts _ k214) (fun _ h9 => h9) rfl dX6_add_18 ?_
  refine lv_aload_n hx hb dX6_add_21 rfl (lv_at hl 1 rfl) ?_
  refine va_get (D := g.1) (ci := 6) (v := .int 15) (C := RX6) (T := TX6) (N := 7) hx hb hts izRX6 hown hK hP 0 rfl rfl 1 (by decide) (hts _ k293) (fun _ h9 => h9) rfl dX6_add_22 ?_
  refine lv_iload_n hx hb dX6_add_25 rfl (lv_at hl 2 rfl) ?_
  refine lv_iload_n hx hb dX6_add_26 rfl (lv_at hl 0 rfl) ?_
  refine lv_iushr (v := ((v : Int32).toUInt32 >>> ((0 : Int32).toUInt32 &&& Int32.toUInt32 31)).toInt32) hx hb dX6_add_27 rfl ?_
  refine lv_sipush (v := 255) hx hb dX6_add_28 (by decide) ?_
  refine lv_iand hx hb dX6_add_31 ?_
  refine va_iast hx hb hK hP hD hS 1 0 rfl rfl (zin rfl) dX6_add_32 (fun H locs hP hD hS => ?_)
  have hP : va_P g.1 vwCl (List.flatten [[(o, .inr (6, [.ref ab, .int 15, .int len, .int knd, .int beg, .int nxt, .int flt])), (ab, .inl (g.2 0, 400, .inl (upd (upd (upd (upd fb 12 ((((v : Int32).toUInt32 >>> ((24 : Int32).toUInt32 &&& Int32.toUInt32 31)).toInt32) &&& 255)) 13 ((((v : Int32).toUInt32 >>> ((16 : Int32).toUInt32 &&& Int32.toUInt32 31)).toInt32) &&& 255)) 14 ((((v : Int32).toUInt32 >>> ((8 : Int32).toUInt32 &&& Int32.toUInt32 31)).toInt32) &&& 255)) 15 ((((v : Int32).toUInt32 >>> ((0 : Int32).toUInt32 &&& Int32.toUInt32 31)).toInt32) &&& 255))))]]) H := hP
  have hD : va_D A (List.flatten [[(o, .inr (6, [.ref ab, .int 15, .int len, .int knd, .int beg, .int nxt, .int flt])), (ab, .inl (g.2 0, 400, .inl (upd (upd (upd (upd fb 12 ((((v : Int32).toUInt32 >>> ((24 : Int32).toUInt32 &&& Int32.toUInt32 31)).toInt32) &&& 255)) 13 ((((v : Int32).toUInt32 >>> ((16 : Int32).toUInt32 &&& Int32.toUInt32 31)).toInt32) &&& 255)) 14 ((((v : Int32).toUInt32 >>> ((8 : Int32).toUInt32 &&& Int32.toUInt32 31)).toInt32) &&& 255)) 15 ((((v : Int32).toUInt32 >>> ((0 : Int32).toUInt32 &&& Int32.toUInt32 31)).toInt32) &&& 255))))]]) := hD
  refine lv_aload_n hx hb dX6_add_33 rfl (lv_at hl 1 rfl) ?_
  refine lv_dup hx hb dX6_add_34 rfl ?_
  refine va_get (D := g.1) (ci := 6) (v := .int 15) (C := RX6) (T := TX6) (N := 7) hx hb hts izRX6 hown hK hP 0 rfl rfl 1 (by decide) (hts _ k293) (fun _ h9 => h9) rfl dX6_add_35 ?_
  refine lv_iconst (v := 1) hx hb dX6_add_38 (by decide) ?_
  refine lv_iadd hx hb dX6_add_39 ?_
  refine ztop (r := 16) (by decide) ?_
  refine va_put (D := g.1) (ci := 6) (v := .int 16) (ty := .int) (C := RX6) (T := TX6) (N := 7) hx hb hts izRX6 tyX6 tyX6_ok nmX6 hown hK hP hD hS 0 rfl rfl 1 (by decide) (hts _ k293) (fun _ h9 => h9) rfl (by decide +kernel) rfl rfl (Nat.le_of_ble_eq_true rfl) dX6_add_40 (fun H locs hP hD hS => ?_)
  have hP : va_P g.1 vwCl (List.flatten [[(o, .inr (6, [.ref ab, .int 16, .int len, .int knd, .int beg, .int nxt, .int flt])), (ab, .inl (g.2 0, 400, .inl (upd (upd (upd (upd fb 12 ((((v : Int32).toUInt32 >>> ((24 : Int32).toUInt32 &&& Int32.toUInt32 31)).toInt32) &&& 255)) 13 ((((v : Int32).toUInt32 >>> ((16 : Int32).toUInt32 &&& Int32.toUInt32 31)).toInt32) &&& 255)) 14 ((((v : Int32).toUInt32 >>> ((8 : Int32).toUInt32 &&& Int32.toUInt32 31)).toInt32) &&& 255)) 15 ((((v : Int32).toUInt32 >>> ((0 : Int32).toUInt32 &&& Int32.toUInt32 31)).toInt32) &&& 255))))]]) H := hP
  have hD : va_D A (List.flatten [[(o, .inr (6, [.ref ab, .int 16, .int len, .int knd, .int beg, .int nxt, .int flt])), (ab, .inl (g.2 0, 400, .inl (upd (upd (upd (upd fb 12 ((((v : Int32).toUInt32 >>> ((24 : Int32).toUInt32 &&& Int32.toUInt32 31)).toInt32) &&& 255)) 13 ((((v : Int32).toUInt32 >>> ((16 : Int32).toUInt32 &&& Int32.toUInt32 31)).toInt32) &&& 255)) 14 ((((v : Int32).toUInt32 >>> ((8 : Int32).toUInt32 &&& Int32.toUInt32 31)).toInt32) &&& 255)) 15 ((((v : Int32).toUInt32 >>> ((0 : Int32).toUInt32 &&& Int32.toUInt32 31)).toInt32) &&& 255))))]]) := hD
  refine lv_iinc (v := (-8)) (lv' := [(2, .int (-8)), (0, .ref o), (1, .int v)]) hx hb dX6_add_43 hl (k := 0) rfl (by decide) (by decide) rfl (fun ls hl => ?_)
  refine lv_goto (tgt := 3) hx hb dX6_add_46 (by decide) ?_
  refine lv_iload_n hx hb dX6_add_3 rfl (lv_at hl 0 rfl) ?_
  refine lv_if_lt (tgt := 49) hx hb dX6_add_4 (by decide) (fun _ => ?_) (fun c9 => absurd (by decide) c9)
  have hP : va_P g.1 vwCl (List.flatten [bTape g o ab 16 len knd beg nxt flt (upd (upd (upd (upd fb 12 ((((v : Int32).toUInt32 >>> ((24 : Int32).toUInt32 &&& Int32.toUInt32 31)).toInt32) &&& 255)) 13 ((((v : Int32).toUInt32 >>> ((16 : Int32).toUInt32 &&& Int32.toUInt32 31)).toInt32) &&& 255)) 14 ((((v : Int32).toUInt32 >>> ((8 : Int32).toUInt32 &&& Int32.toUInt32 31)).toInt32) &&& 255)) 15 ((((v : Int32).toUInt32 >>> ((0 : Int32).toUInt32 &&& Int32.toUInt32 31)).toInt32) &&& 255))]) H := hP
  have hD : va_D A (List.flatten [bTape g o ab 16 len knd beg nxt flt (upd (upd (upd (upd fb 12 ((((v : Int32).toUInt32 >>> ((24 : Int32).toUInt32 &&& Int32.toUInt32 31)).toInt32) &&& 255)) 13 ((((v : Int32).toUInt32 >>> ((16 : Int32).toUInt32 &&& Int32.toUInt32 31)).toInt32) &&& 255)) 14 ((((v : Int32).toUInt32 >>> ((8 : Int32).toUInt32 &&& Int32.toUInt32 31)).toInt32) &&& 255)) 15 ((((v : Int32).toUInt32 >>> ((0 : Int32).toUInt32 &&& Int32.toUInt32 31)).toInt32) &&& 255))]) := hD
  exact mret_v hx hb hr hlocks hS (Nat.le_of_ble_eq_true rfl) (Nat.le_of_ble_eq_true rfl) dX6_add_49 (upd (upd (upd (upd fb 12 ((((v : Int32).toUInt32 >>> ((24 : Int32).toUInt32 &&& Int32.toUInt32 31)).toInt32) &&& 255)) 13 ((((v : Int32).toUInt32 >>> ((16 : Int32).toUInt32 &&& Int32.toUInt32 31)).toInt32) &&& 255)) 14 ((((v : Int32).toUInt32 >>> ((8 : Int32).toUInt32 &&& Int32.toUInt32 31)).toInt32) &&& 255)) 15 ((((v : Int32).toUInt32 >>> ((0 : Int32).toUInt32 &&& Int32.toUInt32 31)).toInt32) &&& 255)) rfl trivial hP hD
set_option maxRecDepth 100000 in
set_option maxHeartbeats 4000000 in
theorem c_Tape_add16 (l : Launch) (g : zG) (o : Nat) (ab : Nat) (len : Int32) (knd : Int32) (beg : Int32) (nxt : Int32) (flt : Int32) (fb : Nat → Int32) (v : Int32)  : zM g l yX6_add (Cond.code yX6_add cX6_add 3 none :: zB) ({ frames := 0, cells := 0, slots := 0, locals := 0 } : Room) [.ref o, .int v] [bTape g o ab 16 len knd beg nxt flt fb] (fun (fb2 : Nat → Int32) => none) (fun (fb2 : Nat → Int32) => True) (fun (fb2 : Nat → Int32) => [bTape g o ab 20 len knd beg nxt flt fb2]) := by
  refine zM.of (cc := cX6_add) (maxL := 3) (rt := none) (by decide) rfl (Nat.le_of_ble_eq_true rfl) ?_
  intro p e s m args below meth c A ls St hr hlocks hin hK hT hA hP hD hS hl
  obtain ⟨hx, hb, hml, hown, hts⟩ := id St
  have hl : lv_has ls 3 [(0, .ref o), (1, .int v)] := hl
  refine lv_bipush (v := 24) hx hb dX6_add_0 (by decide) ?_
  refine lv_istore_n (lv' := [(2, .int 24), (0, .ref o), (1, .int v)]) hx hb dX6_add_2 rfl hl (by decide) rfl (fun ls hl => ?_)
  refine lv_iload_n hx hb dX6_add_3 rfl (lv_at hl 0 rfl) ?_
  refine lv_if_lt (tgt := 49) hx hb dX6_add_4 (by decide) (fun c1 => absurd c1 (by decide)) (fun _ => ?_)
  refine lv_aload_n hx hb dX6_add_7 rfl (lv_at hl 1 rfl) ?_
  refine va_get (D := g.1) (ci := 6) (v := .int 16) (C := RX6) (T := TX6) (N := 7) hx hb hts izRX6 hown hK hP 0 rfl rfl 1 (by decide) (hts _ k293) (fun _ h9 => h9) rfl dX6_add_8 ?_
  refine lv_sipush (v := 400) hx hb dX6_add_11 (by decide) ?_
  refine lv_icmp_ge (tgt := 49) hx hb dX6_add_14 (by decide) (fun c2 => absurd c2 (by decide)) (fun _ => ?_)
  refine lv_aload_n hx hb dX6_add_17 rfl (lv_at hl 1 rfl) ?_
  refine va_get (D := g.1) (ci := 6) (v := .ref ab) (C := RX6) (T := TX6) (N := 7) hx hb hts izRX6 hown hK hP 0 rfl rfl 0 (by decide) (hts _ k214) (fun _ h9 => h9) rfl dX6_add_18 ?_
  refine lv_aload_n hx hb dX6_add_21 rfl (lv_at hl 1 rfl) ?_
  refine va_get (D := g.1) (ci := 6) (v := .int 16) (C := RX6) (T := TX6) (N := 7) hx hb hts izRX6 hown hK hP 0 rfl rfl 1 (by decide) (hts _ k293) (fun _ h9 => h9) rfl dX6_add_22 ?_
  refine lv_iload_n hx hb dX6_add_25 rfl (lv_at hl 2 rfl) ?_
  refine lv_iload_n hx hb dX6_add_26 rfl (lv_at hl 0 rfl) ?_
  refine lv_iushr (v := ((v : Int32).toUInt32 >>> ((24 : Int32).toUInt32 &&& Int32.toUInt32 31)).toInt32) hx hb dX6_add_27 rfl ?_
  refine lv_sipush (v := 255) hx hb dX6_add_28 (by decide) ?_
  refine lv_iand hx hb dX6_add_31 ?_
  refine va_iast hx hb hK hP hD hS 1 0 rfl rfl (zin rfl) dX6_add_32 (fun H locs hP hD hS => ?_)
  have hP : va_P g.1 vwCl (List.flatten [[(o, .inr (6, [.ref ab, .int 16, .int len, .int knd, .int beg, .int nxt, .int flt])), (ab, .inl (g.2 0, 400, .inl (upd fb 16 ((((v : Int32).toUInt32 >>> ((24 : Int32).toUInt32 &&& Int32.toUInt32 31)).toInt32) &&& 255))))]]) H := hP
  have hD : va_D A (List.flatten [[(o, .inr (6, [.ref ab, .int 16, .int len, .int knd, .int beg, .int nxt, .int flt])), (ab, .inl (g.2 0, 400, .inl (upd fb 16 ((((v : Int32).toUInt32 >>> ((24 : Int32).toUInt32 &&& Int32.toUInt32 31)).toInt32) &&& 255))))]]) := hD
  refine lv_aload_n hx hb dX6_add_33 rfl (lv_at hl 1 rfl) ?_
  refine lv_dup hx hb dX6_add_34 rfl ?_
  refine va_get (D := g.1) (ci := 6) (v := .int 16) (C := RX6) (T := TX6) (N := 7) hx hb hts izRX6 hown hK hP 0 rfl rfl 1 (by decide) (hts _ k293) (fun _ h9 => h9) rfl dX6_add_35 ?_
  refine lv_iconst (v := 1) hx hb dX6_add_38 (by decide) ?_
  refine lv_iadd hx hb dX6_add_39 ?_
  refine ztop (r := 17) (by decide) ?_
  refine va_put (D := g.1) (ci := 6) (v := .int 17) (ty := .int) (C := RX6) (T := TX6) (N := 7) hx hb hts izRX6 tyX6 tyX6_ok nmX6 hown hK hP hD hS 0 rfl rfl 1 (by decide) (hts _ k293) (fun _ h9 => h9) rfl (by decide +kernel) rfl rfl (Nat.le_of_ble_eq_true rfl) dX6_add_40 (fun H locs hP hD hS => ?_)
  have hP : va_P g.1 vwCl (List.flatten [[(o, .inr (6, [.ref ab, .int 17, .int len, .int knd, .int beg, .int nxt, .int flt])), (ab, .inl (g.2 0, 400, .inl (upd fb 16 ((((v : Int32).toUInt32 >>> ((24 : Int32).toUInt32 &&& Int32.toUInt32 31)).toInt32) &&& 255))))]]) H := hP
  have hD : va_D A (List.flatten [[(o, .inr (6, [.ref ab, .int 17, .int len, .int knd, .int beg, .int nxt, .int flt])), (ab, .inl (g.2 0, 400, .inl (upd fb 16 ((((v : Int32).toUInt32 >>> ((24 : Int32).toUInt32 &&& Int32.toUInt32 31)).toInt32) &&& 255))))]]) := hD
  refine lv_iinc (v := 16) (lv' := [(2, .int 16), (0, .ref o), (1, .int v)]) hx hb dX6_add_43 hl (k := 0) rfl (by decide) (by decide) rfl (fun ls hl => ?_)
  refine lv_goto (tgt := 3) hx hb dX6_add_46 (by decide) ?_
  refine lv_iload_n hx hb dX6_add_3 rfl (lv_at hl 0 rfl) ?_
  refine lv_if_lt (tgt := 49) hx hb dX6_add_4 (by decide) (fun c3 => absurd c3 (by decide)) (fun _ => ?_)
  refine lv_aload_n hx hb dX6_add_7 rfl (lv_at hl 1 rfl) ?_
  refine va_get (D := g.1) (ci := 6) (v := .int 17) (C := RX6) (T := TX6) (N := 7) hx hb hts izRX6 hown hK hP 0 rfl rfl 1 (by decide) (hts _ k293) (fun _ h9 => h9) rfl dX6_add_8 ?_
  refine lv_sipush (v := 400) hx hb dX6_add_11 (by decide) ?_
  refine lv_icmp_ge (tgt := 49) hx hb dX6_add_14 (by decide) (fun c4 => absurd c4 (by decide)) (fun _ => ?_)
  refine lv_aload_n hx hb dX6_add_17 rfl (lv_at hl 1 rfl) ?_
  refine va_get (D := g.1) (ci := 6) (v := .ref ab) (C := RX6) (T := TX6) (N := 7) hx hb hts izRX6 hown hK hP 0 rfl rfl 0 (by decide) (hts _ k214) (fun _ h9 => h9) rfl dX6_add_18 ?_
  refine lv_aload_n hx hb dX6_add_21 rfl (lv_at hl 1 rfl) ?_
  refine va_get (D := g.1) (ci := 6) (v := .int 17) (C := RX6) (T := TX6) (N := 7) hx hb hts izRX6 hown hK hP 0 rfl rfl 1 (by decide) (hts _ k293) (fun _ h9 => h9) rfl dX6_add_22 ?_
  refine lv_iload_n hx hb dX6_add_25 rfl (lv_at hl 2 rfl) ?_
  refine lv_iload_n hx hb dX6_add_26 rfl (lv_at hl 0 rfl) ?_
  refine lv_iushr (v := ((v : Int32).toUInt32 >>> ((16 : Int32).toUInt32 &&& Int32.toUInt32 31)).toInt32) hx hb dX6_add_27 rfl ?_
  refine lv_sipush (v := 255) hx hb dX6_add_28 (by decide) ?_
  refine lv_iand hx hb dX6_add_31 ?_
  refine va_iast hx hb hK hP hD hS 1 0 rfl rfl (zin rfl) dX6_add_32 (fun H locs hP hD hS => ?_)
  have hP : va_P g.1 vwCl (List.flatten [[(o, .inr (6, [.ref ab, .int 17, .int len, .int knd, .int beg, .int nxt, .int flt])), (ab, .inl (g.2 0, 400, .inl (upd (upd fb 16 ((((v : Int32).toUInt32 >>> ((24 : Int32).toUInt32 &&& Int32.toUInt32 31)).toInt32) &&& 255)) 17 ((((v : Int32).toUInt32 >>> ((16 : Int32).toUInt32 &&& Int32.toUInt32 31)).toInt32) &&& 255))))]]) H := hP
  have hD : va_D A (List.flatten [[(o, .inr (6, [.ref ab, .int 17, .int len, .int knd, .int beg, .int nxt, .int flt])), (ab, .inl (g.2 0, 400, .inl (upd (upd fb 16 ((((v : Int32).toUInt32 >>> ((24 : Int32).toUInt32 &&& Int32.toUInt32 31)).toInt32) &&& 255)) 17 ((((v : Int32).toUInt32 >>> ((16 : Int32).toUInt32 &&& Int32.toUInt32 31)).toInt32) &&& 255))))]]) := hD
  refine lv_aload_n hx hb dX6_add_33 rfl (lv_at hl 1 rfl) ?_
  refine lv_dup hx hb dX6_add_34 rfl ?_
  refine va_get (D := g.1) (ci := 6) (v := .int 17) (C := RX6) (T := TX6) (N := 7) hx hb hts izRX6 hown hK hP 0 rfl rfl 1 (by decide) (hts _ k293) (fun _ h9 => h9) rfl dX6_add_35 ?_
  refine lv_iconst (v := 1) hx hb dX6_add_38 (by decide) ?_
  refine lv_iadd hx hb dX6_add_39 ?_
  refine ztop (r := 18) (by decide) ?_
  refine va_put (D := g.1) (ci := 6) (v := .int 18) (ty := .int) (C := RX6) (T := TX6) (N := 7) hx hb hts izRX6 tyX6 tyX6_ok nmX6 hown hK hP hD hS 0 rfl rfl 1 (by decide) (hts _ k293) (fun _ h9 => h9) rfl (by decide +kernel) rfl rfl (Nat.le_of_ble_eq_true rfl) dX6_add_40 (fun H locs hP hD hS => ?_)
  have hP : va_P g.1 vwCl (List.flatten [[(o, .inr (6, [.ref ab, .int 18, .int len, .int knd, .int beg, .int nxt, .int flt])), (ab, .inl (g.2 0, 400, .inl (upd (upd fb 16 ((((v : Int32).toUInt32 >>> ((24 : Int32).toUInt32 &&& Int32.toUInt32 31)).toInt32) &&& 255)) 17 ((((v : Int32).toUInt32 >>> ((16 : Int32).toUInt32 &&& Int32.toUInt32 31)).toInt32) &&& 255))))]]) H := hP
  have hD : va_D A (List.flatten [[(o, .inr (6, [.ref ab, .int 18, .int len, .int knd, .int beg, .int nxt, .int flt])), (ab, .inl (g.2 0, 400, .inl (upd (upd fb 16 ((((v : Int32).toUInt32 >>> ((24 : Int32).toUInt32 &&& Int32.toUInt32 31)).toInt32) &&& 255)) 17 ((((v : Int32).toUInt32 >>> ((16 : Int32).toUInt32 &&& Int32.toUInt32 31)).toInt32) &&& 255))))]]) := hD
  refine lv_iinc (v := 8) (lv' := [(2, .int 8), (0, .ref o), (1, .int v)]) hx hb dX6_add_43 hl (k := 0) rfl (by decide) (by decide) rfl (fun ls hl => ?_)
  refine lv_goto (tgt := 3) hx hb dX6_add_46 (by decide) ?_
  refine lv_iload_n hx hb dX6_add_3 rfl (lv_at hl 0 rfl) ?_
  refine lv_if_lt (tgt := 49) hx hb dX6_add_4 (by decide) (fun c5 => absurd c5 (by decide)) (fun _ => ?_)
  refine lv_aload_n hx hb dX6_add_7 rfl (lv_at hl 1 rfl) ?_
  refine va_get (D := g.1) (ci := 6) (v := .int 18) (C := RX6) (T := TX6) (N := 7) hx hb hts izRX6 hown hK hP 0 rfl rfl 1 (by decide) (hts _ k293) (fun _ h9 => h9) rfl dX6_add_8 ?_
  refine lv_sipush (v := 400) hx hb dX6_add_11 (by decide) ?_
  refine lv_icmp_ge (tgt := 49) hx hb dX6_add_14 (by decide) (fun c6 => absurd c6 (by decide)) (fun _ => ?_)
  refine lv_aload_n hx hb dX6_add_17 rfl (lv_at hl 1 rfl) ?_
  refine va_get (D := g.1) (ci := 6) (v := .ref ab) (C := RX6) (T := TX6) (N := 7) hx hb hts izRX6 hown hK hP 0 rfl rfl 0 (by decide) (hts _ k214) (fun _ h9 => h9) rfl dX6_add_18 ?_
  refine lv_aload_n hx hb dX6_add_21 rfl (lv_at hl 1 rfl) ?_
  refine va_get (D := g.1) (ci := 6) (v := .int 18) (C := RX6) (T := TX6) (N := 7) hx hb hts izRX6 hown hK hP 0 rfl rfl 1 (by decide) (hts _ k293) (fun _ h9 => h9) rfl dX6_add_22 ?_
  refine lv_iload_n hx hb dX6_add_25 rfl (lv_at hl 2 rfl) ?_
  refine lv_iload_n hx hb dX6_add_26 rfl (lv_at hl 0 rfl) ?_
  refine lv_iushr (v := ((v : Int32).toUInt32 >>> ((8 : Int32).toUInt32 &&& Int32.toUInt32 31)).toInt32) hx hb dX6_add_27 rfl ?_
  refine lv_sipush (v := 255) hx hb dX6_add_28 (by decide) ?_
  refine lv_iand hx hb dX6_add_31 ?_
  refine va_iast hx hb hK hP hD hS 1 0 rfl rfl (zin rfl) dX6_add_32 (fun H locs hP hD hS => ?_)
  have hP : va_P g.1 vwCl (List.flatten [[(o, .inr (6, [.ref ab, .int 18, .int len, .int knd, .int beg, .int nxt, .int flt])), (ab, .inl (g.2 0, 400, .inl (upd (upd (upd fb 16 ((((v : Int32).toUInt32 >>> ((24 : Int32).toUInt32 &&& Int32.toUInt32 31)).toInt32) &&& 255)) 17 ((((v : Int32).toUInt32 >>> ((16 : Int32).toUInt32 &&& Int32.toUInt32 31)).toInt32) &&& 255)) 18 ((((v : Int32).toUInt32 >>> ((8 : Int32).toUInt32 &&& Int32.toUInt32 31)).toInt32) &&& 255))))]]) H := hP
  have hD : va_D A (List.flatten [[(o, .inr (6, [.ref ab, .int 18, .int len, .int knd, .int beg, .int nxt, .int flt])), (ab, .inl (g.2 0, 400, .inl (upd (upd (upd fb 16 ((((v : Int32).toUInt32 >>> ((24 : Int32).toUInt32 &&& Int32.toUInt32 31)).toInt32) &&& 255)) 17 ((((v : Int32).toUInt32 >>> ((16 : Int32).toUInt32 &&& Int32.toUInt32 31)).toInt32) &&& 255)) 18 ((((v : Int32).toUInt32 >>> ((8 : Int32).toUInt32 &&& Int32.toUInt32 31)).toInt32) &&& 255))))]]) := hD
  refine lv_aload_n hx hb dX6_add_33 rfl (lv_at hl 1 rfl) ?_
  refine lv_dup hx hb dX6_add_34 rfl ?_
  refine va_get (D := g.1) (ci := 6) (v := .int 18) (C := RX6) (T := TX6) (N := 7) hx hb hts izRX6 hown hK hP 0 rfl rfl 1 (by decide) (hts _ k293) (fun _ h9 => h9) rfl dX6_add_35 ?_
  refine lv_iconst (v := 1) hx hb dX6_add_38 (by decide) ?_
  refine lv_iadd hx hb dX6_add_39 ?_
  refine ztop (r := 19) (by decide) ?_
  refine va_put (D := g.1) (ci := 6) (v := .int 19) (ty := .int) (C := RX6) (T := TX6) (N := 7) hx hb hts izRX6 tyX6 tyX6_ok nmX6 hown hK hP hD hS 0 rfl rfl 1 (by decide) (hts _ k293) (fun _ h9 => h9) rfl (by decide +kernel) rfl rfl (Nat.le_of_ble_eq_true rfl) dX6_add_40 (fun H locs hP hD hS => ?_)
  have hP : va_P g.1 vwCl (List.flatten [[(o, .inr (6, [.ref ab, .int 19, .int len, .int knd, .int beg, .int nxt, .int flt])), (ab, .inl (g.2 0, 400, .inl (upd (upd (upd fb 16 ((((v : Int32).toUInt32 >>> ((24 : Int32).toUInt32 &&& Int32.toUInt32 31)).toInt32) &&& 255)) 17 ((((v : Int32).toUInt32 >>> ((16 : Int32).toUInt32 &&& Int32.toUInt32 31)).toInt32) &&& 255)) 18 ((((v : Int32).toUInt32 >>> ((8 : Int32).toUInt32 &&& Int32.toUInt32 31)).toInt32) &&& 255))))]]) H := hP
  have hD : va_D A (List.flatten [[(o, .inr (6, [.ref ab, .int 19, .int len, .int knd, .int beg, .int nxt, .int flt])), (ab, .inl (g.2 0, 400, .inl (upd (upd (upd fb 16 ((((v : Int32).toUInt32 >>> ((24 : Int32).toUInt32 &&& Int32.toUInt32 31)).toInt32) &&& 255)) 17 ((((v : Int32).toUInt32 >>> ((16 : Int32).toUInt32 &&& Int32.toUInt32 31)).toInt32) &&& 255)) 18 ((((v : Int32).toUInt32 >>> ((8 : Int32).toUInt32 &&& Int32.toUInt32 31)).toInt32) &&& 255))))]]) := hD
  refine lv_iinc (v := 0) (lv' := [(2, .int 0), (0, .ref o), (1, .int v)]) hx hb dX6_add_43 hl (k := 0) rfl (by decide) (by decide) rfl (fun ls hl => ?_)
  refine lv_goto (tgt := 3) hx hb dX6_add_46 (by decide) ?_
  refine lv_iload_n hx hb dX6_add_3 rfl (lv_at hl 0 rfl) ?_
  refine lv_if_lt (tgt := 49) hx hb dX6_add_4 (by decide) (fun c7 => absurd c7 (by decide)) (fun _ => ?_)
  refine lv_aload_n hx hb dX6_add_7 rfl (lv_at hl 1 rfl) ?_
  refine va_get (D := g.1) (ci := 6) (v := .int 19) (C := RX6) (T := TX6) (N := 7) hx hb hts izRX6 hown hK hP 0 rfl rfl 1 (by decide) (hts _ k293) (fun _ h9 => h9) rfl dX6_add_8 ?_
  refine lv_sipush (v := 400) hx hb dX6_add_11 (by decide) ?_
  refine lv_icmp_ge (tgt := 49) hx hb dX6_add_14 (by decide) (fun c8 => absurd c8 (by decide)) (fun _ => ?_)
  refine lv_aload_n hx hb dX6_add_17 rfl (lv_at hl 1 rfl) ?_
  refine va_get (D := g.1) (ci := 6) (v := .ref ab) (C := RX6) (T := TX6) (N := 7) hx hb hts izRX6 hown hK hP 0 rfl rfl 0 (by decide) (hts _ k214) (fun _ h9 => h9) rfl dX6_add_18 ?_
  refine lv_aload_n hx hb dX6_add_21 rfl (lv_at hl 1 rfl) ?_
  refine va_get (D := g.1) (ci := 6) (v := .int 19) (C := RX6) (T := TX6) (N := 7) hx hb hts izRX6 hown hK hP 0 rfl rfl 1 (by decide) (hts _ k293) (fun _ h9 => h9) rfl dX6_add_22 ?_
  refine lv_iload_n hx hb dX6_add_25 rfl (lv_at hl 2 rfl) ?_
  refine lv_iload_n hx hb dX6_add_26 rfl (lv_at hl 0 rfl) ?_
  refine lv_iushr (v := ((v : Int32).toUInt32 >>> ((0 : Int32).toUInt32 &&& Int32.toUInt32 31)).toInt32) hx hb dX6_add_27 rfl ?_
  refine lv_sipush (v := 255) hx hb dX6_add_28 (by decide) ?_
  refine lv_iand hx hb dX6_add_31 ?_
  refine va_iast hx hb hK hP hD hS 1 0 rfl rfl (zin rfl) dX6_add_32 (fun H locs hP hD hS => ?_)
  have hP : va_P g.1 vwCl (List.flatten [[(o, .inr (6, [.ref ab, .int 19, .int len, .int knd, .int beg, .int nxt, .int flt])), (ab, .inl (g.2 0, 400, .inl (upd (upd (upd (upd fb 16 ((((v : Int32).toUInt32 >>> ((24 : Int32).toUInt32 &&& Int32.toUInt32 31)).toInt32) &&& 255)) 17 ((((v : Int32).toUInt32 >>> ((16 : Int32).toUInt32 &&& Int32.toUInt32 31)).toInt32) &&& 255)) 18 ((((v : Int32).toUInt32 >>> ((8 : Int32).toUInt32 &&& Int32.toUInt32 31)).toInt32) &&& 255)) 19 ((((v : Int32).toUInt32 >>> ((0 : Int32).toUInt32 &&& Int32.toUInt32 31)).toInt32) &&& 255))))]]) H := hP
  have hD : va_D A (List.flatten [[(o, .inr (6, [.ref ab, .int 19, .int len, .int knd, .int beg, .int nxt, .int flt])), (ab, .inl (g.2 0, 400, .inl (upd (upd (upd (upd fb 16 ((((v : Int32).toUInt32 >>> ((24 : Int32).toUInt32 &&& Int32.toUInt32 31)).toInt32) &&& 255)) 17 ((((v : Int32).toUInt32 >>> ((16 : Int32).toUInt32 &&& Int32.toUInt32 31)).toInt32) &&& 255)) 18 ((((v : Int32).toUInt32 >>> ((8 : Int32).toUInt32 &&& Int32.toUInt32 31)).toInt32) &&& 255)) 19 ((((v : Int32).toUInt32 >>> ((0 : Int32).toUInt32 &&& Int32.toUInt32 31)).toInt32) &&& 255))))]]) := hD
  refine lv_aload_n hx hb dX6_add_33 rfl (lv_at hl 1 rfl) ?_
  refine lv_dup hx hb dX6_add_34 rfl ?_
  refine va_get (D := g.1) (ci := 6) (v := .int 19) (C := RX6) (T := TX6) (N := 7) hx hb hts izRX6 hown hK hP 0 rfl rfl 1 (by decide) (hts _ k293) (fun _ h9 => h9) rfl dX6_add_35 ?_
  refine lv_iconst (v := 1) hx hb dX6_add_38 (by decide) ?_
  refine lv_iadd hx hb dX6_add_39 ?_
  refine ztop (r := 20) (by decide) ?_
  refine va_put (D := g.1) (ci := 6) (v := .int 20) (ty := .int) (C := RX6) (T := TX6) (N := 7) hx hb hts izRX6 tyX6 tyX6_ok nmX6 hown hK hP hD hS 0 rfl rfl 1 (by decide) (hts _ k293) (fun _ h9 => h9) rfl (by decide +kernel) rfl rfl (Nat.le_of_ble_eq_true rfl) dX6_add_40 (fun H locs hP hD hS => ?_)
  have hP : va_P g.1 vwCl (List.flatten [[(o, .inr (6, [.ref ab, .int 20, .int len, .int knd, .int beg, .int nxt, .int flt])), (ab, .inl (g.2 0, 400, .inl (upd (upd (upd (upd fb 16 ((((v : Int32).toUInt32 >>> ((24 : Int32).toUInt32 &&& Int32.toUInt32 31)).toInt32) &&& 255)) 17 ((((v : Int32).toUInt32 >>> ((16 : Int32).toUInt32 &&& Int32.toUInt32 31)).toInt32) &&& 255)) 18 ((((v : Int32).toUInt32 >>> ((8 : Int32).toUInt32 &&& Int32.toUInt32 31)).toInt32) &&& 255)) 19 ((((v : Int32).toUInt32 >>> ((0 : Int32).toUInt32 &&& Int32.toUInt32 31)).toInt32) &&& 255))))]]) H := hP
  have hD : va_D A (List.flatten [[(o, .inr (6, [.ref ab, .int 20, .int len, .int knd, .int beg, .int nxt, .int flt])), (ab, .inl (g.2 0, 400, .inl (upd (upd (upd (upd fb 16 ((((v : Int32).toUInt32 >>> ((24 : Int32).toUInt32 &&& Int32.toUInt32 31)).toInt32) &&& 255)) 17 ((((v : Int32).toUInt32 >>> ((16 : Int32).toUInt32 &&& Int32.toUInt32 31)).toInt32) &&& 255)) 18 ((((v : Int32).toUInt32 >>> ((8 : Int32).toUInt32 &&& Int32.toUInt32 31)).toInt32) &&& 255)) 19 ((((v : Int32).toUInt32 >>> ((0 : Int32).toUInt32 &&& Int32.toUInt32 31)).toInt32) &&& 255))))]]) := hD
  refine lv_iinc (v := (-8)) (lv' := [(2, .int (-8)), (0, .ref o), (1, .int v)]) hx hb dX6_add_43 hl (k := 0) rfl (by decide) (by decide) rfl (fun ls hl => ?_)
  refine lv_goto (tgt := 3) hx hb dX6_add_46 (by decide) ?_
  refine lv_iload_n hx hb dX6_add_3 rfl (lv_at hl 0 rfl) ?_
  refine lv_if_lt (tgt := 49) hx hb dX6_add_4 (by decide) (fun _ => ?_) (fun c9 => absurd (by decide) c9)
  have hP : va_P g.1 vwCl (List.flatten [bTape g o ab 20 len knd beg nxt flt (upd (upd (upd (upd fb 16 ((((v : Int32).toUInt32 >>> ((24 : Int32).toUInt32 &&& Int32.toUInt32 31)).toInt32) &&& 255)) 17 ((((v : Int32).toUInt32 >>> ((16 : Int32).toUInt32 &&& Int32.toUInt32 31)).toInt32) &&& 255)) 18 ((((v : Int32).toUInt32 >>> ((8 : Int32).toUInt32 &&& Int32.toUInt32 31)).toInt32) &&& 255)) 19 ((((v : Int32).toUInt32 >>> ((0 : Int32).toUInt32 &&& Int32.toUInt32 31)).toInt32) &&& 255))]) H := hP
  have hD : va_D A (List.flatten [bTape g o ab 20 len knd beg nxt flt (upd (upd (upd (upd fb 16 ((((v : Int32).toUInt32 >>> ((24 : Int32).toUInt32 &&& Int32.toUInt32 31)).toInt32) &&& 255)) 17 ((((v : Int32).toUInt32 >>> ((16 : Int32).toUInt32 &&& Int32.toUInt32 31)).toInt32) &&& 255)) 18 ((((v : Int32).toUInt32 >>> ((8 : Int32).toUInt32 &&& Int32.toUInt32 31)).toInt32) &&& 255)) 19 ((((v : Int32).toUInt32 >>> ((0 : Int32).toUInt32 &&& Int32.toUInt32 31)).toInt32) &&& 255))]) := hD
  exact mret_v hx hb hr hlocks hS (Nat.le_of_ble_eq_true rfl) (Nat.le_of_ble_eq_true rfl) dX6_add_49 (upd (upd (upd (upd fb 16 ((((v : Int32).toUInt32 >>> ((24 : Int32).toUInt32 &&& Int32.toUInt32 31)).toInt32) &&& 255)) 17 ((((v : Int32).toUInt32 >>> ((16 : Int32).toUInt32 &&& Int32.toUInt32 31)).toInt32) &&& 255)) 18 ((((v : Int32).toUInt32 >>> ((8 : Int32).toUInt32 &&& Int32.toUInt32 31)).toInt32) &&& 255)) 19 ((((v : Int32).toUInt32 >>> ((0 : Int32).toUInt32 &&& Int32.toUInt32 31)).toInt32) &&& 255)) rfl trivial hP hD
set_option maxRecDepth 100000 in
set_option maxHeartbeats 4000000 in
theorem c_useUp (l : Launch) (g : zG) (o : Nat) (ab : Nat) (len : Int32) (knd : Int32) (beg : Int32) (nxt : Int32) (flt : Int32) (fb : Nat → Int32)  : zM g l yX6_useUp (Cond.code yX6_useUp cX6_useUp 2 (some .int) :: zB) ({ frames := 0, cells := 0, slots := 0, locals := 0 } : Room) [.ref o] [bTape g o ab 0 len knd beg nxt flt fb] (fun _ : Unit => some (.int 0)) (fun _ : Unit => True) (fun _ : Unit => [bTape g o ab 0 len knd beg nxt flt fb]) := by
  refine zM.of (cc := cX6_useUp) (maxL := 2) (rt := (some .int)) (by decide) rfl (Nat.le_of_ble_eq_true rfl) ?_
  intro p e s m args below meth c A ls St hr hlocks hin hK hT hA hP hD hS hl
  obtain ⟨hx, hb, hml, hown, hts⟩ := id St
  have hl : lv_has ls 2 [(0, .ref o)] := hl
  refine lv_aload_n hx hb dX6_useUp_0 rfl (lv_at hl 0 rfl) ?_
  refine va_get (D := g.1) (ci := 6) (v := .int 0) (C := RX6) (T := TX6) (N := 7) hx hb hts izRX6 hown hK hP 0 rfl rfl 1 (by decide) (hts _ k293) (fun _ h9 => h9) rfl dX6_useUp_1 ?_
  refine lv_istore_n (lv' := [(1, .int 0), (0, .ref o)]) hx hb dX6_useUp_4 rfl hl (by decide) rfl (fun ls hl => ?_)
  refine lv_aload_n hx hb dX6_useUp_5 rfl (lv_at hl 1 rfl) ?_
  refine lv_iconst (v := 0) hx hb dX6_useUp_6 (by decide) ?_
  refine va_put (D := g.1) (ci := 6) (v := .int 0) (ty := .int) (C := RX6) (T := TX6) (N := 7) hx hb hts izRX6 tyX6 tyX6_ok nmX6 hown hK hP hD hS 0 rfl rfl 1 (by decide) (hts _ k293) (fun _ h9 => h9) rfl (by decide +kernel) rfl rfl (Nat.le_of_ble_eq_true rfl) dX6_useUp_7 (fun H locs hP hD hS => ?_)
  have hP : va_P g.1 vwCl (List.flatten [[(o, .inr (6, [.ref ab, .int 0, .int len, .int knd, .int beg, .int nxt, .int flt])), (ab, .inl (g.2 0, 400, .inl fb))]]) H := hP
  have hD : va_D A (List.flatten [[(o, .inr (6, [.ref ab, .int 0, .int len, .int knd, .int beg, .int nxt, .int flt])), (ab, .inl (g.2 0, 400, .inl fb))]]) := hD
  refine lv_iload_n hx hb dX6_useUp_10 rfl (lv_at hl 0 rfl) ?_
  have hP : va_P g.1 vwCl (List.flatten [bTape g o ab 0 len knd beg nxt flt fb]) H := hP
  have hD : va_D A (List.flatten [bTape g o ab 0 len knd beg nxt flt fb]) := hD
  exact mret_i hx hb hr hlocks hS (Nat.le_of_ble_eq_true rfl) (Nat.le_of_ble_eq_true rfl) dX6_useUp_11 () rfl trivial hP hD
set_option maxRecDepth 100000 in
set_option maxHeartbeats 4000000 in
theorem c_holdsTales0 (l : Launch) (g : zG) (o : Nat) (ab : Nat) (len : Int32) (knd : Int32) (beg : Int32) (nxt : Int32) (flt : Int32) (fb : Nat → Int32)  : zM g l yX6_holdsTales (Cond.code yX6_holdsTales cX6_holdsTales 3 (some .boolean) :: zB) ({ frames := 0, cells := 0, slots := 0, locals := 0 } : Room) [.ref o, .int 0] [bTape g o ab 0 len knd beg nxt flt fb] (fun _ : Unit => some (.int 1)) (fun _ : Unit => True) (fun _ : Unit => [bTape g o ab 0 len knd beg nxt flt fb]) := by
  refine zM.of (cc := cX6_holdsTales) (maxL := 3) (rt := (some .boolean)) (by decide) rfl (Nat.le_of_ble_eq_true rfl) ?_
  intro p e s m args below meth c A ls St hr hlocks hin hK hT hA hP hD hS hl
  obtain ⟨hx, hb, hml, hown, hts⟩ := id St
  have hl : lv_has ls 3 [(0, .ref o), (1, .int 0)] := hl
  refine lv_iconst (v := 0) hx hb dX6_holdsTales_0 (by decide) ?_
  refine lv_istore_n (lv' := [(2, .int 0), (0, .ref o), (1, .int 0)]) hx hb dX6_holdsTales_1 rfl hl (by decide) rfl (fun ls hl => ?_)
  refine lv_iload_n hx hb dX6_holdsTales_2 rfl (lv_at hl 0 rfl) ?_
  refine lv_iload_n hx hb dX6_holdsTales_3 rfl (lv_at hl 2 rfl) ?_
  refine lv_icmp_ge (tgt := 25) hx hb dX6_holdsTales_4 (by decide) (fun _ => ?_) (fun c1 => absurd (by decide) c1)
  refine lv_iconst (v := 1) hx hb dX6_holdsTales_25 (by decide) ?_
  have hP : va_P g.1 vwCl (List.flatten [bTape g o ab 0 len knd beg nxt flt fb]) s.heap := hP
  have hD : va_D A (List.flatten [bTape g o ab 0 len knd beg nxt flt fb]) := hD
  exact mret_z hx hb hr hlocks hS (Nat.le_of_ble_eq_true rfl) (Nat.le_of_ble_eq_true rfl) dX6_holdsTales_26 () rfl (by decide) trivial hP hD
set_option maxRecDepth 100000 in
set_option maxHeartbeats 4000000 in
theorem c_lead0 (l : Launch) (g : zG) (o : Nat) (ab : Nat) (len : Int32) (knd : Int32) (beg : Int32) (nxt : Int32) (flt : Int32) (fb : Nat → Int32)  : zM g l yX6_lead (Cond.code yX6_lead cX6_lead 4 (some .int) :: zB) ({ frames := 0, cells := 0, slots := 0, locals := 0 } : Room) [.ref o, .int 0] [bTape g o ab 0 len knd beg nxt flt fb] (fun _ : Unit => some (.int 0)) (fun _ : Unit => True) (fun _ : Unit => [bTape g o ab 0 len knd beg nxt flt fb]) := by
  refine zM.of (cc := cX6_lead) (maxL := 4) (rt := (some .int)) (by decide) rfl (Nat.le_of_ble_eq_true rfl) ?_
  intro p e s m args below meth c A ls St hr hlocks hin hK hT hA hP hD hS hl
  obtain ⟨hx, hb, hml, hown, hts⟩ := id St
  have hl : lv_has ls 4 [(0, .ref o), (1, .int 0)] := hl
  refine lv_iconst (v := 0) hx hb dX6_lead_0 (by decide) ?_
  refine lv_istore_n (lv' := [(2, .int 0), (0, .ref o), (1, .int 0)]) hx hb dX6_lead_1 rfl hl (by decide) rfl (fun ls hl => ?_)
  refine lv_iconst (v := 0) hx hb dX6_lead_2 (by decide) ?_
  refine lv_istore_n (lv' := [(3, .int 0), (2, .int 0), (0, .ref o), (1, .int 0)]) hx hb dX6_lead_3 rfl hl (by decide) rfl (fun ls hl => ?_)
  refine lv_iload_n hx hb dX6_lead_4 rfl (lv_at hl 0 rfl) ?_
  refine lv_iload_n hx hb dX6_lead_5 rfl (lv_at hl 3 rfl) ?_
  refine lv_icmp_ge (tgt := 33) hx hb dX6_lead_6 (by decide) (fun _ => ?_) (fun c1 => absurd (by decide) c1)
  refine lv_iload_n hx hb dX6_lead_33 rfl (lv_at hl 1 rfl) ?_
  have hP : va_P g.1 vwCl (List.flatten [bTape g o ab 0 len knd beg nxt flt fb]) s.heap := hP
  have hD : va_D A (List.flatten [bTape g o ab 0 len knd beg nxt flt fb]) := hD
  exact mret_i hx hb hr hlocks hS (Nat.le_of_ble_eq_true rfl) (Nat.le_of_ble_eq_true rfl) dX6_lead_34 () rfl trivial hP hD
set_option maxRecDepth 100000 in
set_option maxHeartbeats 4000000 in
theorem c_holdsSaid0 (l : Launch) (g : zG) (o : Nat) (ab : Nat) (len : Int32) (knd : Int32) (beg : Int32) (nxt : Int32) (flt : Int32) (fb : Nat → Int32)  : zM g l yX6_holdsSaid (Cond.code yX6_holdsSaid cX6_holdsSaid 6 (some .boolean) :: zB) ({ frames := 0, cells := 0, slots := 0, locals := 0 } : Room) [.ref o, .int 0, .int 0] [bTape g o ab 0 len knd beg nxt flt fb] (fun _ : Unit => some (.int 1)) (fun _ : Unit => True) (fun _ : Unit => [bTape g o ab 0 len knd beg nxt flt fb]) := by
  refine zM.of (cc := cX6_holdsSaid) (maxL := 6) (rt := (some .boolean)) (by decide) rfl (Nat.le_of_ble_eq_true rfl) ?_
  intro p e s m args below meth c A ls St hr hlocks hin hK hT hA hP hD hS hl
  obtain ⟨hx, hb, hml, hown, hts⟩ := id St
  have hl : lv_has ls 6 [(0, .ref o), (1, .int 0), (2, .int 0)] := hl
  refine lv_iload_n hx hb dX6_holdsSaid_0 rfl (lv_at hl 1 rfl) ?_
  refine lv_iconst (v := 3) hx hb dX6_holdsSaid_1 (by decide) ?_
  refine lv_irem hx hb dX6_holdsSaid_2 (by decide) ?_
  refine ztop (r := 0) (by decide) ?_
  refine lv_if_eq (tgt := 8) hx hb dX6_holdsSaid_3 (by decide) (fun _ => ?_) (fun c1 => absurd (by decide) c1)
  refine lv_iconst (v := 0) hx hb dX6_holdsSaid_8 (by decide) ?_
  refine lv_istore_n (lv' := [(3, .int 0), (0, .ref o), (1, .int 0), (2, .int 0)]) hx hb dX6_holdsSaid_9 rfl hl (by decide) rfl (fun ls hl => ?_)
  refine lv_iload_n hx hb dX6_holdsSaid_10 rfl (lv_at hl 0 rfl) ?_
  refine lv_iconst (v := 2) hx hb dX6_holdsSaid_11 (by decide) ?_
  refine lv_iadd hx hb dX6_holdsSaid_12 ?_
  refine ztop (r := 2) (by decide) ?_
  refine lv_iload_n hx hb dX6_holdsSaid_13 rfl (lv_at hl 2 rfl) ?_
  refine lv_icmp_ge (tgt := 74) hx hb dX6_holdsSaid_14 (by decide) (fun _ => ?_) (fun c2 => absurd (by decide) c2)
  refine lv_iconst (v := 1) hx hb dX6_holdsSaid_74 (by decide) ?_
  have hP : va_P g.1 vwCl (List.flatten [bTape g o ab 0 len knd beg nxt flt fb]) s.heap := hP
  have hD : va_D A (List.flatten [bTape g o ab 0 len knd beg nxt flt fb]) := hD
  exact mret_z hx hb hr hlocks hS (Nat.le_of_ble_eq_true rfl) (Nat.le_of_ble_eq_true rfl) dX6_holdsSaid_75 () rfl (by decide) trivial hP hD
set_option maxRecDepth 100000 in
set_option maxHeartbeats 4000000 in
theorem c_step0 (l : Launch) (g : zG) (o : Nat) (ab : Nat) (knd : Int32) (beg : Int32) (flt : Int32) (fb : Nat → Int32)  : zM g l yX6_step (Cond.code yX6_step cX6_step 2 none :: zB) ({ frames := 0, cells := 0, slots := 0, locals := 0 } : Room) [.ref o] [bTape g o ab 0 0 knd beg 0 flt fb] (fun _ : Unit => none) (fun _ : Unit => True) (fun _ : Unit => [bTape g o ab 0 0 0 0 0 flt fb]) := by
  refine zM.of (cc := cX6_step) (maxL := 2) (rt := none) (by decide) rfl (Nat.le_of_ble_eq_true rfl) ?_
  intro p e s m args below meth c A ls St hr hlocks hin hK hT hA hP hD hS hl
  obtain ⟨hx, hb, hml, hown, hts⟩ := id St
  have hl : lv_has ls 2 [(0, .ref o)] := hl
  refine lv_aload_n hx hb dX6_step_0 rfl (lv_at hl 0 rfl) ?_
  refine va_get (D := g.1) (ci := 6) (v := .int 0) (C := RX6) (T := TX6) (N := 7) hx hb hts izRX6 hown hK hP 0 rfl rfl 5 (by decide) (hts _ k212) (fun _ h9 => h9) rfl dX6_step_1 ?_
  refine lv_aload_n hx hb dX6_step_4 rfl (lv_at hl 0 rfl) ?_
  refine va_get (D := g.1) (ci := 6) (v := .int 0) (C := RX6) (T := TX6) (N := 7) hx hb hts izRX6 hown hK hP 0 rfl rfl 2 (by decide) (hts _ k213) (fun _ h9 => h9) rfl dX6_step_5 ?_
  refine lv_icmp_ge (tgt := 38) hx hb dX6_step_8 (by decide) (fun _ => ?_) (fun c1 => absurd (by decide) c1)
  refine lv_aload_n hx hb dX6_step_38 rfl (lv_at hl 0 rfl) ?_
  refine lv_aload_n hx hb dX6_step_39 rfl (lv_at hl 0 rfl) ?_
  refine va_get (D := g.1) (ci := 6) (v := .int 0) (C := RX6) (T := TX6) (N := 7) hx hb hts izRX6 hown hK hP 0 rfl rfl 5 (by decide) (hts _ k212) (fun _ h9 => h9) rfl dX6_step_40 ?_
  refine va_put (D := g.1) (ci := 6) (v := .int 0) (ty := .int) (C := RX6) (T := TX6) (N := 7) hx hb hts izRX6 tyX6 tyX6_ok nmX6 hown hK hP hD hS 0 rfl rfl 4 (by decide) (hts _ k215) (fun _ h9 => h9) rfl (by decide +kernel) rfl rfl (Nat.le_of_ble_eq_true rfl) dX6_step_43 (fun H locs hP hD hS => ?_)
  have hP : va_P g.1 vwCl (List.flatten [[(o, .inr (6, [.ref ab, .int 0, .int 0, .int knd, .int 0, .int 0, .int flt])), (ab, .inl (g.2 0, 400, .inl fb))]]) H := hP
  have hD : va_D A (List.flatten [[(o, .inr (6, [.ref ab, .int 0, .int 0, .int knd, .int 0, .int 0, .int flt])), (ab, .inl (g.2 0, 400, .inl fb))]]) := hD
  refine lv_aload_n hx hb dX6_step_46 rfl (lv_at hl 0 rfl) ?_
  refine va_get (D := g.1) (ci := 6) (v := .int 0) (C := RX6) (T := TX6) (N := 7) hx hb hts izRX6 hown hK hP 0 rfl rfl 5 (by decide) (hts _ k212) (fun _ h9 => h9) rfl dX6_step_47 ?_
  refine lv_aload_n hx hb dX6_step_50 rfl (lv_at hl 0 rfl) ?_
  refine va_get (D := g.1) (ci := 6) (v := .int 0) (C := RX6) (T := TX6) (N := 7) hx hb hts izRX6 hown hK hP 0 rfl rfl 2 (by decide) (hts _ k213) (fun _ h9 => h9) rfl dX6_step_51 ?_
  refine lv_icmp_lt (tgt := 63) hx hb dX6_step_54 (by decide) (fun c2 => absurd c2 (by decide)) (fun _ => ?_)
  refine lv_aload_n hx hb dX6_step_57 rfl (lv_at hl 0 rfl) ?_
  refine lv_iconst (v := 0) hx hb dX6_step_58 (by decide) ?_
  refine va_put (D := g.1) (ci := 6) (v := .int 0) (ty := .int) (C := RX6) (T := TX6) (N := 7) hx hb hts izRX6 tyX6 tyX6_ok nmX6 hown hK hP hD hS 0 rfl rfl 3 (by decide) (hts _ k216) (fun _ h9 => h9) rfl (by decide +kernel) rfl rfl (Nat.le_of_ble_eq_true rfl) dX6_step_59 (fun H locs hP hD hS => ?_)
  have hP : va_P g.1 vwCl (List.flatten [[(o, .inr (6, [.ref ab, .int 0, .int 0, .int 0, .int 0, .int 0, .int flt])), (ab, .inl (g.2 0, 400, .inl fb))]]) H := hP
  have hD : va_D A (List.flatten [[(o, .inr (6, [.ref ab, .int 0, .int 0, .int 0, .int 0, .int 0, .int flt])), (ab, .inl (g.2 0, 400, .inl fb))]]) := hD
  have hP : va_P g.1 vwCl (List.flatten [bTape g o ab 0 0 0 0 0 flt fb]) H := hP
  have hD : va_D A (List.flatten [bTape g o ab 0 0 0 0 0 flt fb]) := hD
  exact mret_v hx hb hr hlocks hS (Nat.le_of_ble_eq_true rfl) (Nat.le_of_ble_eq_true rfl) dX6_step_62 () rfl trivial hP hD
set_option maxRecDepth 100000 in
set_option maxHeartbeats 4000000 in
theorem c_open0 (l : Launch) (g : zG) (o : Nat) (ab : Nat) (len : Int32) (knd : Int32) (beg : Int32) (nxt : Int32) (flt : Int32) (fb : Nat → Int32)  : zM g l yX6_open (Cond.code yX6_open cX6_open 2 none :: zB) ({ frames := 1, cells := 0, slots := 0, locals := 21 } : Room) [.ref o, .int 0] [bTape g o ab 0 len knd beg nxt flt fb] (fun _ : Unit => none) (fun _ : Unit => True) (fun _ : Unit => [bTape g o ab 0 0 0 0 0 (-1) fb]) := by
  refine zM.of (cc := cX6_open) (maxL := 2) (rt := none) (by decide) rfl (Nat.le_of_ble_eq_true rfl) ?_
  intro p e s m args below meth c A ls St hr hlocks hin hK hT hA hP hD hS hl
  obtain ⟨hx, hb, hml, hown, hts⟩ := id St
  have hl : lv_has ls 2 [(0, .ref o), (1, .int 0)] := hl
  refine lv_aload_n hx hb dX6_open_0 rfl (lv_at hl 0 rfl) ?_
  refine lv_iload_n hx hb dX6_open_1 rfl (lv_at hl 1 rfl) ?_
  refine lv_sipush (v := 400) hx hb dX6_open_2 (by decide) ?_
  refine va_mmin hx hb (by rw [hml]; exact hl.1.symm) hown (hts _ k299) (hts _ k110) (hts _ k94) (hts _ k111) (Nat.le_of_ble_eq_true rfl) (Nat.le_of_ble_eq_true rfl) (Nat.le_of_ble_eq_true rfl) (Nat.le_of_ble_eq_true rfl) dX6_open_5 ?_
  refine ztop (r := 0) (by decide) ?_
  refine va_put (D := g.1) (ci := 6) (v := .int 0) (ty := .int) (C := RX6) (T := TX6) (N := 7) hx hb hts izRX6 tyX6 tyX6_ok nmX6 hown hK hP hD hS 0 rfl rfl 2 (by decide) (hts _ k213) (fun _ h9 => h9) rfl (by decide +kernel) rfl rfl (Nat.le_of_ble_eq_true rfl) dX6_open_8 (fun H locs hP hD hS => ?_)
  have hP : va_P g.1 vwCl (List.flatten [[(o, .inr (6, [.ref ab, .int 0, .int 0, .int knd, .int beg, .int nxt, .int flt])), (ab, .inl (g.2 0, 400, .inl fb))]]) H := hP
  have hD : va_D A (List.flatten [[(o, .inr (6, [.ref ab, .int 0, .int 0, .int knd, .int beg, .int nxt, .int flt])), (ab, .inl (g.2 0, 400, .inl fb))]]) := hD
  refine lv_aload_n hx hb dX6_open_11 rfl (lv_at hl 0 rfl) ?_
  refine lv_iconst (v := 0) hx hb dX6_open_12 (by decide) ?_
  refine va_put (D := g.1) (ci := 6) (v := .int 0) (ty := .int) (C := RX6) (T := TX6) (N := 7) hx hb hts izRX6 tyX6 tyX6_ok nmX6 hown hK hP hD hS 0 rfl rfl 5 (by decide) (hts _ k212) (fun _ h9 => h9) rfl (by decide +kernel) rfl rfl (Nat.le_of_ble_eq_true rfl) dX6_open_13 (fun H locs hP hD hS => ?_)
  have hP : va_P g.1 vwCl (List.flatten [[(o, .inr (6, [.ref ab, .int 0, .int 0, .int knd, .int beg, .int 0, .int flt])), (ab, .inl (g.2 0, 400, .inl fb))]]) H := hP
  have hD : va_D A (List.flatten [[(o, .inr (6, [.ref ab, .int 0, .int 0, .int knd, .int beg, .int 0, .int flt])), (ab, .inl (g.2 0, 400, .inl fb))]]) := hD
  refine lv_aload_n hx hb dX6_open_16 rfl (lv_at hl 0 rfl) ?_
  refine lv_iconst (v := (-1)) hx hb dX6_open_17 (by decide) ?_
  refine va_put (D := g.1) (ci := 6) (v := .int (-1)) (ty := .int) (C := RX6) (T := TX6) (N := 7) hx hb hts izRX6 tyX6 tyX6_ok nmX6 hown hK hP hD hS 0 rfl rfl 6 (by decide) (hts _ k291) (fun _ h9 => h9) rfl (by decide +kernel) rfl rfl (Nat.le_of_ble_eq_true rfl) dX6_open_18 (fun H locs hP hD hS => ?_)
  have hP : va_P g.1 vwCl (List.flatten [[(o, .inr (6, [.ref ab, .int 0, .int 0, .int knd, .int beg, .int 0, .int (-1)])), (ab, .inl (g.2 0, 400, .inl fb))]]) H := hP
  have hD : va_D A (List.flatten [[(o, .inr (6, [.ref ab, .int 0, .int 0, .int knd, .int beg, .int 0, .int (-1)])), (ab, .inl (g.2 0, 400, .inl fb))]]) := hD
  refine lv_aload_n hx hb dX6_open_21 rfl (lv_at hl 0 rfl) ?_
  refine mcallV (g := g) (q0 := 0) (ci := 6) (As := []) (rest := []) St hK hT hA hP hD hS hl.1 [0] [] rfl rfl rfl (c_step0 l g o ab knd beg (-1) fb ) (cwV 0 hts (zgL (zl4 k300 k301 k302 k303) k211) rfl rfl rfl (by decide +kernel) ⟨Nat.le_of_ble_eq_true rfl, Nat.le_of_ble_eq_true rfl⟩) rfl rfl rfl rfl (Nat.le_of_ble_eq_true rfl) dX6_open_22 ⟨(Nat.le_of_ble_eq_true rfl), (Nat.le_of_ble_eq_true rfl)⟩ (fun _u H locs hq1 hP hD hS => ?_)
  have hP : va_P g.1 vwCl (List.flatten [bTape g o ab 0 0 0 0 0 (-1) fb]) H := hP
  have hD : va_D A (List.flatten [bTape g o ab 0 0 0 0 0 (-1) fb]) := hD
  refine W.widen (k := 0) (n := 0) (Nat.le_of_ble_eq_true rfl) (Nat.le_of_ble_eq_true rfl) ?_
  refine W.eq (g2 := F0 m 25 ls []) rfl ?_
  have hP : va_P g.1 vwCl (List.flatten [bTape g o ab 0 0 0 0 0 (-1) fb]) H := hP
  have hD : va_D A (List.flatten [bTape g o ab 0 0 0 0 0 (-1) fb]) := hD
  exact mret_v hx hb hr hlocks hS (Nat.le_of_ble_eq_true rfl) (Nat.le_of_ble_eq_true rfl) dX6_open_25 () rfl trivial hP hD
set_option maxRecDepth 100000 in
set_option maxHeartbeats 4000000 in
theorem c_Text_initT (l : Launch) (g : zG) (o : Nat) (ta : Nat)  : zM g l yX7_init (Cond.code yX7_init cX7_init 2 none :: zB) ({ frames := 1, cells := 0, slots := 0, locals := 13 } : Room) [.ref o, .ref ta] [[(o, .inr (8, [.null, .null]))]] (fun _ : Unit => none) (fun _ : Unit => True) (fun _ : Unit => [[(o, .inr (8, [.ref ta, .null]))]]) := by
  refine zM.of (cc := cX7_init) (maxL := 2) (rt := none) (by decide) rfl (Nat.le_of_ble_eq_true rfl) ?_
  intro p e s m args below meth c A ls St hr hlocks hin hK hT hA hP hD hS hl
  obtain ⟨hx, hb, hml, hown, hts⟩ := id St
  have hl : lv_has ls 2 [(0, .ref o), (1, .ref ta)] := hl
  refine lv_aload_n hx hb dX7_init_0 rfl (lv_at hl 0 rfl) ?_
  refine W.objInit hx hb hown (hts (.methodLink RX7 3 objectInit) k201) (hts (.instanceMethod objectInit) k2) (hts (.code objectInit ⟨#[0xb1]⟩ 1 none) k3) rfl (by rw [hml]; exact hl.1) rfl dX7_init_1 (Nat.le_of_ble_eq_true rfl) (Nat.le_of_ble_eq_true rfl) ?_
  refine W.eq (g2 := F0 m 4 ls []) rfl ?_
  refine lv_aload_n hx hb dX7_init_4 rfl (lv_at hl 0 rfl) ?_
  refine lv_aload_n hx hb dX7_init_5 rfl (lv_at hl 1 rfl) ?_
  refine va_putF (D := g.1) (ci := 8) (v := .ref ta) (ty := tyX10 0) (C := RX10) (T := TX10) (N := 2) hx hb hts izRX10 tyX10 tyX10_ok nmX10 hown hK hP hD hS 0 rfl rfl 0 (by decide) (hts _ k202) (fun _ h9 => h9) rfl hin rfl (by decide +kernel) rfl rfl (Nat.le_of_ble_eq_true rfl) dX7_init_6 (fun H locs hP hD hS => ?_)
  have hP : va_P g.1 vwCl (List.flatten [[(o, .inr (8, [.ref ta, .null]))]]) H := hP
  have hD : va_D A (List.flatten [[(o, .inr (8, [.ref ta, .null]))]]) := hD
  have hP : va_P g.1 vwCl (List.flatten [[(o, .inr (8, [.ref ta, .null]))]]) H := hP
  have hD : va_D A (List.flatten [[(o, .inr (8, [.ref ta, .null]))]]) := hD
  exact mret_v hx hb hr hlocks hS (Nat.le_of_ble_eq_true rfl) (Nat.le_of_ble_eq_true rfl) dX7_init_9 () rfl trivial hP hD
set_option maxRecDepth 100000 in
set_option maxHeartbeats 4000000 in
theorem c_readLinesT (l : Launch) (g : zG) (o : Nat) (ta : Nat) (dr : Nat) (ab : Nat) (mo : Int32) (size : Int32) (len : Int32) (beg : Int32) (nxt : Int32) (flt : Int32) (fb : Nat → Int32)  : zM g l yX7_readLines (Cond.code yX7_readLines cX7_readLines 3 (some .int) :: zB) ({ frames := 0, cells := 0, slots := 0, locals := 0 } : Room) [.ref o, .int mo] [[(o, .inr (8, [.ref ta, .ref dr]))], bTape g ta ab size len 0 beg nxt flt fb] (fun _ : Unit => some (.int 0)) (fun _ : Unit => True) (fun _ : Unit => [[(o, .inr (8, [.ref ta, .ref dr]))], bTape g ta ab size len 0 beg nxt flt fb]) := by
  refine zM.of (cc := cX7_readLines) (maxL := 3) (rt := (some .int)) (by decide) rfl (Nat.le_of_ble_eq_true rfl) ?_
  intro p e s m args below meth c A ls St hr hlocks hin hK hT hA hP hD hS hl
  obtain ⟨hx, hb, hml, hown, hts⟩ := id St
  have hl : lv_has ls 3 [(0, .ref o), (1, .int mo)] := hl
  refine lv_aload_n hx hb dX7_readLines_0 rfl (lv_at hl 0 rfl) ?_
  refine va_get (D := g.1) (ci := 8) (v := .ref ta) (C := RX10) (T := TX10) (N := 2) hx hb hts izRX10 hown hK hP 0 rfl rfl 0 (by decide) (hts _ k202) (fun _ h9 => h9) rfl dX7_readLines_1 ?_
  refine va_get (D := g.1) (ci := 6) (v := .int 0) (C := RX6) (T := TX6) (N := 7) hx hb hts izRX6 hown hK hP 1 rfl rfl 3 (by decide) (hts _ k304) (fun _ h9 => h9) rfl dX7_readLines_4 ?_
  refine lv_if_ne (tgt := 12) hx hb dX7_readLines_7 (by decide) (fun c1 => absurd (by decide) c1) (fun _ => ?_)
  refine lv_iconst (v := 0) hx hb dX7_readLines_10 (by decide) ?_
  have hP : va_P g.1 vwCl (List.flatten [[(o, .inr (8, [.ref ta, .ref dr]))], bTape g ta ab size len 0 beg nxt flt fb]) s.heap := hP
  have hD : va_D A (List.flatten [[(o, .inr (8, [.ref ta, .ref dr]))], bTape g ta ab size len 0 beg nxt flt fb]) := hD
  exact mret_i hx hb hr hlocks hS (Nat.le_of_ble_eq_true rfl) (Nat.le_of_ble_eq_true rfl) dX7_readLines_11 () rfl trivial hP hD
set_option maxRecDepth 100000 in
set_option maxHeartbeats 4000000 in
theorem c_Text_initL (l : Launch) (g : zG) (o : Nat) (ta : Nat)  : zM g l yX7_init (Cond.code yX7_init cX7_init 2 none :: zB) ({ frames := 1, cells := 0, slots := 0, locals := 13 } : Room) [.ref o, .ref ta] [[(o, .inr (2, [.null, .null]))]] (fun _ : Unit => none) (fun _ : Unit => True) (fun _ : Unit => [[(o, .inr (2, [.ref ta, .null]))]]) := by
  refine zM.of (cc := cX7_init) (maxL := 2) (rt := none) (by decide) rfl (Nat.le_of_ble_eq_true rfl) ?_
  intro p e s m args below meth c A ls St hr hlocks hin hK hT hA hP hD hS hl
  obtain ⟨hx, hb, hml, hown, hts⟩ := id St
  have hl : lv_has ls 2 [(0, .ref o), (1, .ref ta)] := hl
  refine lv_aload_n hx hb dX7_init_0 rfl (lv_at hl 0 rfl) ?_
  refine W.objInit hx hb hown (hts (.methodLink RX7 3 objectInit) k201) (hts (.instanceMethod objectInit) k2) (hts (.code objectInit ⟨#[0xb1]⟩ 1 none) k3) rfl (by rw [hml]; exact hl.1) rfl dX7_init_1 (Nat.le_of_ble_eq_true rfl) (Nat.le_of_ble_eq_true rfl) ?_
  refine W.eq (g2 := F0 m 4 ls []) rfl ?_
  refine lv_aload_n hx hb dX7_init_4 rfl (lv_at hl 0 rfl) ?_
  refine lv_aload_n hx hb dX7_init_5 rfl (lv_at hl 1 rfl) ?_
  refine va_putF (D := g.1) (ci := 2) (v := .ref ta) (ty := tyX2 0) (C := RX2) (T := TX2) (N := 2) hx hb hts izRX2 tyX2 tyX2_ok nmX2 hown hK hP hD hS 0 rfl rfl 0 (by decide) (hts _ k202) (fun _ h9 => h9) rfl hin rfl (by decide +kernel) rfl rfl (Nat.le_of_ble_eq_true rfl) dX7_init_6 (fun H locs hP hD hS => ?_)
  have hP : va_P g.1 vwCl (List.flatten [[(o, .inr (2, [.ref ta, .null]))]]) H := hP
  have hD : va_D A (List.flatten [[(o, .inr (2, [.ref ta, .null]))]]) := hD
  have hP : va_P g.1 vwCl (List.flatten [[(o, .inr (2, [.ref ta, .null]))]]) H := hP
  have hD : va_D A (List.flatten [[(o, .inr (2, [.ref ta, .null]))]]) := hD
  exact mret_v hx hb hr hlocks hS (Nat.le_of_ble_eq_true rfl) (Nat.le_of_ble_eq_true rfl) dX7_init_9 () rfl trivial hP hD
set_option maxRecDepth 100000 in
set_option maxHeartbeats 4000000 in
theorem c_readLinesL (l : Launch) (g : zG) (o : Nat) (ta : Nat) (dr : Nat) (ab : Nat) (mo : Int32) (size : Int32) (len : Int32) (beg : Int32) (nxt : Int32) (flt : Int32) (fb : Nat → Int32)  : zM g l yX7_readLines (Cond.code yX7_readLines cX7_readLines 3 (some .int) :: zB) ({ frames := 0, cells := 0, slots := 0, locals := 0 } : Room) [.ref o, .int mo] [[(o, .inr (2, [.ref ta, .ref dr]))], bTape g ta ab size len 0 beg nxt flt fb] (fun _ : Unit => some (.int 0)) (fun _ : Unit => True) (fun _ : Unit => [[(o, .inr (2, [.ref ta, .ref dr]))], bTape g ta ab size len 0 beg nxt flt fb]) := by
  refine zM.of (cc := cX7_readLines) (maxL := 3) (rt := (some .int)) (by decide) rfl (Nat.le_of_ble_eq_true rfl) ?_
  intro p e s m args below meth c A ls St hr hlocks hin hK hT hA hP hD hS hl
  obtain ⟨hx, hb, hml, hown, hts⟩ := id St
  have hl : lv_has ls 3 [(0, .ref o), (1, .int mo)] := hl
  refine lv_aload_n hx hb dX7_readLines_0 rfl (lv_at hl 0 rfl) ?_
  refine va_get (D := g.1) (ci := 2) (v := .ref ta) (C := RX2) (T := TX2) (N := 2) hx hb hts izRX2 hown hK hP 0 rfl rfl 0 (by decide) (hts _ k202) (fun _ h9 => h9) rfl dX7_readLines_1 ?_
  refine va_get (D := g.1) (ci := 6) (v := .int 0) (C := RX6) (T := TX6) (N := 7) hx hb hts izRX6 hown hK hP 1 rfl rfl 3 (by decide) (hts _ k304) (fun _ h9 => h9) rfl dX7_readLines_4 ?_
  refine lv_if_ne (tgt := 12) hx hb dX7_readLines_7 (by decide) (fun c1 => absurd (by decide) c1) (fun _ => ?_)
  refine lv_iconst (v := 0) hx hb dX7_readLines_10 (by decide) ?_
  have hP : va_P g.1 vwCl (List.flatten [[(o, .inr (2, [.ref ta, .ref dr]))], bTape g ta ab size len 0 beg nxt flt fb]) s.heap := hP
  have hD : va_D A (List.flatten [[(o, .inr (2, [.ref ta, .ref dr]))], bTape g ta ab size len 0 beg nxt flt fb]) := hD
  exact mret_i hx hb hr hlocks hS (Nat.le_of_ble_eq_true rfl) (Nat.le_of_ble_eq_true rfl) dX7_readLines_11 () rfl trivial hP hD
set_option maxRecDepth 100000 in
set_option maxHeartbeats 4000000 in
theorem c_TownText_init (l : Launch) (g : zG) (o : Nat) (ta : Nat)  : zM g l yX10_init (Cond.code yX10_init cX10_init 2 none :: zB) ({ frames := 2, cells := 12, slots := 155, locals := 34 } : Room) [.ref o, .ref ta] [[(o, .inr (8, [.null, .null]))]] (fun u : Nat × (Nat → Nat) => (fun (dr : Nat) (a : Nat → Nat) => none) (u.1) (u.2)) (fun u : Nat × (Nat → Nat) => (fun (dr : Nat) (a : Nat → Nat) => True) (u.1) (u.2)) (fun u : Nat × (Nat → Nat) => (fun (dr : Nat) (a : Nat → Nat) => [[(o, .inr (8, [.ref ta, .ref dr]))], bTown g dr a 0 0 0 20 6 50 0 1 (fun _ _ => 0)]) (u.1) (u.2)) := by
  refine zM.of (cc := cX10_init) (maxL := 2) (rt := none) (by decide) rfl (Nat.le_of_ble_eq_true rfl) ?_
  intro p e s m args below meth c A ls St hr hlocks hin hK hT hA hP hD hS hl
  obtain ⟨hx, hb, hml, hown, hts⟩ := id St
  have hl : lv_has ls 2 [(0, .ref o), (1, .ref ta)] := hl
  refine lv_aload_n hx hb dX10_init_0 rfl (lv_at hl 0 rfl) ?_
  refine lv_aload_n hx hb dX10_init_1 rfl (lv_at hl 1 rfl) ?_
  refine mcallI (g := g) (As := [.ref ta]) (rest := []) St hK hT hA hP hD hS hl.1 [0] [] rfl rfl rfl (c_Text_initT l g o ta ) (cwI 1 hts (zgI k200) rfl rfl rfl (hts _ k209) (hts _ k505) (hts _ k208) rfl (by decide +kernel) ⟨Nat.le_of_ble_eq_true rfl, Nat.le_of_ble_eq_true rfl⟩) rfl rfl (Nat.le_of_ble_eq_true rfl) dX10_init_2 ⟨(Nat.le_of_ble_eq_true rfl), (Nat.le_of_ble_eq_true rfl)⟩ (fun _u H locs hq1 hP hD hS => ?_)
  have hP : va_P g.1 vwCl (List.flatten [[(o, .inr (8, [.ref ta, .null]))]]) H := hP
  have hD : va_D A (List.flatten [[(o, .inr (8, [.ref ta, .null]))]]) := hD
  refine W.widen (k := 0) (n := 0) (Nat.le_of_ble_eq_true rfl) (Nat.le_of_ble_eq_true rfl) ?_
  refine W.eq (g2 := F0 m 5 ls []) rfl ?_
  refine lv_aload_n hx hb dX10_init_5 rfl (lv_at hl 0 rfl) ?_
  refine znew (g := g) (ci := 7) (fs := [.int 0, .int 0, .int 0, .int 0, .int 0, .int 0, .int 0, .int 0, .null, .null, .null, .null, .null, .null, .null, .null, .null, .null, .null]) (C := RX9) (T := TX9) (N := 19) hx hb hts izRX9 tyX9 tyX9_ok hown (hts _ k504) (hts _ k23) (hts _ k24) hK hP hD hS hA rfl (fun j hj => by rcases (show j = 0 ∨ j = 1 ∨ j = 2 ∨ j = 3 ∨ j = 4 ∨ j = 5 ∨ j = 6 ∨ j = 7 ∨ j = 8 ∨ j = 9 ∨ j = 10 ∨ j = 11 ∨ j = 12 ∨ j = 13 ∨ j = 14 ∨ j = 15 ∨ j = 16 ∨ j = 17 ∨ j = 18 by omega) with rfl | rfl | rfl | rfl | rfl | rfl | rfl | rfl | rfl | rfl | rfl | rfl | rfl | rfl | rfl | rfl | rfl | rfl | rfl <;> rfl) (Nat.le_of_ble_eq_true rfl) (Nat.le_of_ble_eq_true rfl) dX10_init_6 (fun q2 H hP hD hS => ?_)
  have hP : va_P g.1 vwCl (List.flatten [[(o, .inr (8, [.ref ta, .null]))], [(q2, .inr (7, [.int 0, .int 0, .int 0, .int 0, .int 0, .int 0, .int 0, .int 0, .null, .null, .null, .null, .null, .null, .null, .null, .null, .null, .null]))]]) H := hP
  have hD : va_D A (List.flatten [[(o, .inr (8, [.ref ta, .null]))], [(q2, .inr (7, [.int 0, .int 0, .int 0, .int 0, .int 0, .int 0, .int 0, .int 0, .null, .null, .null, .null, .null, .null, .null, .null, .null, .null, .null]))]]) := hD
  refine W.widen (k := 1) (n := 19) (Nat.le_of_ble_eq_true rfl) (Nat.le_of_ble_eq_true rfl) ?_
  refine lv_dup hx hb dX10_init_9 rfl ?_
  refine mcallIN (g := g) (As := []) (rest := [.ref q2, .ref o]) St hK hT hA hP hD hS hl.1 [1] [0] rfl rfl rfl (c_Town_init l g q2 ) ⟨va_cnB (host := "DryRiver") 0 hts (zgI k0) rfl rfl rfl (hT.2.2.2.1 _ (List.mem_of_getElem? (i := 5) rfl)) (hts _ k24) (by decide +kernel) ⟨Nat.le_of_ble_eq_true rfl, Nat.le_of_ble_eq_true rfl⟩, rfl, hts _ k28⟩ rfl rfl (Nat.le_of_ble_eq_true rfl) dX10_init_10 ⟨(Nat.le_of_ble_eq_true rfl), (Nat.le_of_ble_eq_true rfl)⟩ (fun a_3 H locs hq4 hP hD hS => ?_)
  have hP : va_P g.1 vwCl (List.flatten [[(o, .inr (8, [.ref ta, .null]))], bTown g q2 a_3 0 0 0 20 6 50 0 1 (fun _ _ => 0)]) H := hP
  have hD : va_D A (List.flatten [[(o, .inr (8, [.ref ta, .null]))], bTown g q2 a_3 0 0 0 20 6 50 0 1 (fun _ _ => 0)]) := hD
  refine W.widen (k := 12) (n := 155) (Nat.le_of_ble_eq_true rfl) (Nat.le_of_ble_eq_true rfl) ?_
  refine W.eq (g2 := F0 m 13 ls [.ref q2, .ref o]) rfl ?_
  refine va_putF (D := g.1) (ci := 8) (v := .ref q2) (ty := tyX10 1) (C := RX10) (T := TX10) (N := 2) hx hb hts izRX10 tyX10 tyX10_ok nmX10 hown hK hP hD hS 0 rfl rfl 1 (by decide) (hts _ k420) (fun _ h9 => h9) rfl hin rfl (by decide +kernel) rfl rfl (Nat.le_of_ble_eq_true rfl) dX10_init_13 (fun H locs hP hD hS => ?_)
  have hP : va_P g.1 vwCl (List.flatten [[(o, .inr (8, [.ref ta, .ref q2]))], bTown g q2 a_3 0 0 0 20 6 50 0 1 (fun _ _ => 0)]) H := hP
  have hD : va_D A (List.flatten [[(o, .inr (8, [.ref ta, .ref q2]))], bTown g q2 a_3 0 0 0 20 6 50 0 1 (fun _ _ => 0)]) := hD
  have hP : va_P g.1 vwCl (List.flatten [[(o, .inr (8, [.ref ta, .ref q2]))], bTown g q2 a_3 0 0 0 20 6 50 0 1 (fun _ _ => 0)]) H := hP
  have hD : va_D A (List.flatten [[(o, .inr (8, [.ref ta, .ref q2]))], bTown g q2 a_3 0 0 0 20 6 50 0 1 (fun _ _ => 0)]) := hD
  exact mret_v hx hb hr hlocks hS (Nat.le_of_ble_eq_true rfl) (Nat.le_of_ble_eq_true rfl) dX10_init_16 (q2, a_3) rfl trivial hP hD
set_option maxRecDepth 100000 in
set_option maxHeartbeats 4000000 in
theorem c_LawText_init (l : Launch) (g : zG) (o : Nat) (ta : Nat)  : zM g l yX2_init (Cond.code yX2_init cX2_init 2 none :: zB) ({ frames := 2, cells := 2, slots := 406, locals := 34 } : Room) [.ref o, .ref ta] [[(o, .inr (2, [.null, .null]))]] (fun u : Nat × Nat => (fun (dr : Nat) (ac : Nat) => none) (u.1) (u.2)) (fun u : Nat × Nat => (fun (dr : Nat) (ac : Nat) => True) (u.1) (u.2)) (fun u : Nat × Nat => (fun (dr : Nat) (ac : Nat) => [[(o, .inr (2, [.ref ta, .ref dr]))], bLaw g dr ac 0 (-1) 0 0 0 (fun _ => 0)]) (u.1) (u.2)) := by
  refine zM.of (cc := cX2_init) (maxL := 2) (rt := none) (by decide) rfl (Nat.le_of_ble_eq_true rfl) ?_
  intro p e s m args below meth c A ls St hr hlocks hin hK hT hA hP hD hS hl
  obtain ⟨hx, hb, hml, hown, hts⟩ := id St
  have hl : lv_has ls 2 [(0, .ref o), (1, .ref ta)] := hl
  refine lv_aload_n hx hb dX2_init_0 rfl (lv_at hl 0 rfl) ?_
  refine lv_aload_n hx hb dX2_init_1 rfl (lv_at hl 1 rfl) ?_
  refine mcallI (g := g) (As := [.ref ta]) (rest := []) St hK hT hA hP hD hS hl.1 [0] [] rfl rfl rfl (c_Text_initL l g o ta ) (cwI 1 hts (zgI k200) rfl rfl rfl (hts _ k209) (hts _ k207) (hts _ k208) rfl (by decide +kernel) ⟨Nat.le_of_ble_eq_true rfl, Nat.le_of_ble_eq_true rfl⟩) rfl rfl (Nat.le_of_ble_eq_true rfl) dX2_init_2 ⟨(Nat.le_of_ble_eq_true rfl), (Nat.le_of_ble_eq_true rfl)⟩ (fun _u H locs hq1 hP hD hS => ?_)
  have hP : va_P g.1 vwCl (List.flatten [[(o, .inr (2, [.ref ta, .null]))]]) H := hP
  have hD : va_D A (List.flatten [[(o, .inr (2, [.ref ta, .null]))]]) := hD
  refine W.widen (k := 0) (n := 0) (Nat.le_of_ble_eq_true rfl) (Nat.le_of_ble_eq_true rfl) ?_
  refine W.eq (g2 := F0 m 5 ls []) rfl ?_
  refine lv_aload_n hx hb dX2_init_5 rfl (lv_at hl 0 rfl) ?_
  refine znew (g := g) (ci := 1) (fs := [.null, .int 0, .int 0, .int 0, .int 0, .int 0]) (C := RX1) (T := TX1) (N := 6) hx hb hts izRX1 tyX1 tyX1_ok hown (hts _ k204) (hts _ k205) (hts _ k73) hK hP hD hS hA rfl (fun j hj => by rcases (show j = 0 ∨ j = 1 ∨ j = 2 ∨ j = 3 ∨ j = 4 ∨ j = 5 by omega) with rfl | rfl | rfl | rfl | rfl | rfl <;> rfl) (Nat.le_of_ble_eq_true rfl) (Nat.le_of_ble_eq_true rfl) dX2_init_6 (fun q2 H hP hD hS => ?_)
  have hP : va_P g.1 vwCl (List.flatten [[(o, .inr (2, [.ref ta, .null]))], [(q2, .inr (1, [.null, .int 0, .int 0, .int 0, .int 0, .int 0]))]]) H := hP
  have hD : va_D A (List.flatten [[(o, .inr (2, [.ref ta, .null]))], [(q2, .inr (1, [.null, .int 0, .int 0, .int 0, .int 0, .int 0]))]]) := hD
  refine W.widen (k := 1) (n := 6) (Nat.le_of_ble_eq_true rfl) (Nat.le_of_ble_eq_true rfl) ?_
  refine lv_dup hx hb dX2_init_9 rfl ?_
  refine mcallIN (g := g) (As := []) (rest := [.ref q2, .ref o]) St hK hT hA hP hD hS hl.1 [1] [0] rfl rfl rfl (c_Law_init l g q2 ) ⟨va_cnB (host := "DryRiver") 0 hts (zgI k195) rfl rfl rfl (hT.2.2.2.1 _ (List.mem_of_getElem? (i := 1) rfl)) (hts _ k73) (by decide +kernel) ⟨Nat.le_of_ble_eq_true rfl, Nat.le_of_ble_eq_true rfl⟩, rfl, hts _ k210⟩ rfl rfl (Nat.le_of_ble_eq_true rfl) dX2_init_10 ⟨(Nat.le_of_ble_eq_true rfl), (Nat.le_of_ble_eq_true rfl)⟩ (fun ac_3 H locs hq4 hP hD hS => ?_)
  have hP : va_P g.1 vwCl (List.flatten [[(o, .inr (2, [.ref ta, .null]))], bLaw g q2 ac_3 0 (-1) 0 0 0 (fun _ => 0)]) H := hP
  have hD : va_D A (List.flatten [[(o, .inr (2, [.ref ta, .null]))], bLaw g q2 ac_3 0 (-1) 0 0 0 (fun _ => 0)]) := hD
  refine W.widen (k := 2) (n := 406) (Nat.le_of_ble_eq_true rfl) (Nat.le_of_ble_eq_true rfl) ?_
  refine W.eq (g2 := F0 m 13 ls [.ref q2, .ref o]) rfl ?_
  refine va_putF (D := g.1) (ci := 2) (v := .ref q2) (ty := tyX2 1) (C := RX2) (T := TX2) (N := 2) hx hb hts izRX2 tyX2 tyX2_ok nmX2 hown hK hP hD hS 0 rfl rfl 1 (by decide) (hts _ k206) (fun _ h9 => h9) rfl hin rfl (by decide +kernel) rfl rfl (Nat.le_of_ble_eq_true rfl) dX2_init_13 (fun H locs hP hD hS => ?_)
  have hP : va_P g.1 vwCl (List.flatten [[(o, .inr (2, [.ref ta, .ref q2]))], bLaw g q2 ac_3 0 (-1) 0 0 0 (fun _ => 0)]) H := hP
  have hD : va_D A (List.flatten [[(o, .inr (2, [.ref ta, .ref q2]))], bLaw g q2 ac_3 0 (-1) 0 0 0 (fun _ => 0)]) := hD
  have hP : va_P g.1 vwCl (List.flatten [[(o, .inr (2, [.ref ta, .ref q2]))], bLaw g q2 ac_3 0 (-1) 0 0 0 (fun _ => 0)]) H := hP
  have hD : va_D A (List.flatten [[(o, .inr (2, [.ref ta, .ref q2]))], bLaw g q2 ac_3 0 (-1) 0 0 0 (fun _ => 0)]) := hD
  exact mret_v hx hb hr hlocks hS (Nat.le_of_ble_eq_true rfl) (Nat.le_of_ble_eq_true rfl) dX2_init_16 (q2, ac_3) rfl trivial hP hD
