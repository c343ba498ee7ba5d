set_option maxRecDepth 100000 in
set_option maxHeartbeats 4000000 in
theorem c_m_forget (l : Launch) (g : zG) (mo : Nat) (qT : Nat) (qL : Nat) (it : Nat) (il : Nat) (ig : Nat) (mh : Int32) (me : Int32) (mx : Int32) (fT : Nat → Option Nat) (fL : Nat → Option Nat)  : zM' g l yX4_forget (Cond.code yX4_forget cX4_forget 1 none :: zB) ({ frames := 0, cells := 0, slots := 0, locals := 0 } : Room) [.ref mo] [bMem g mo qT qL it il ig mh me mx fT fL] (fun _ : Unit => none) (fun _ : Unit => True) (fun _ : Unit => [bMem g mo qT qL it il ig mh 0 mx fT fL]) := by
  refine zM'.of (cc := cX4_forget) (maxL := 1) (rt := none) (by decide) rfl (Nat.le_of_ble_eq_true rfl) ?_
  intro p e s m args below meth c A ls St hr hlocks hin hK hT hA hP hD hS hl
  obtain ⟨hx, hb, hml, hown, hts⟩ := id St
  have hl : lv_has ls 1 [(0, .ref mo)] := hl
  refine lv_aload_n hx hb dX4_forget_0 rfl (lv_at hl 0 rfl) ?_
  refine lv_iconst (v := 0) hx hb dX4_forget_1 (by decide) ?_
  refine va_put (D := g.1) (ci := 4) (v := .int 0) (ty := .int) (C := RX4) (T := TX4) (N := 8) hx hb hts izRX4 tyX4 tyX4_ok nmX4 hown hK hP hD hS 0 rfl rfl 6 (by decide) (hts _ k360) (fun _ h9 => h9) rfl (by decide +kernel) rfl rfl (Nat.le_of_ble_eq_true rfl) dX4_forget_2 (fun H locs hP hD hS => ?_)
  have hP : va_P g.1 vwCl (List.flatten [bMem g mo qT qL it il ig mh 0 mx fT fL]) H := hP
  have hD : va_D A (List.flatten [bMem g mo qT qL it il ig mh 0 mx fT fL]) := hD
  have hP : va_P g.1 vwCl (List.flatten [bMem g mo qT qL it il ig mh 0 mx fT fL]) H := hP
  have hD : va_D A (List.flatten [bMem g mo qT qL it il ig mh 0 mx fT fL]) := hD
  exact mret_v hx hb hr hlocks hS (Nat.le_of_ble_eq_true rfl) (Nat.le_of_ble_eq_true rfl) dX4_forget_5 () rfl trivial hP hD
set_option maxRecDepth 100000 in
set_option maxHeartbeats 4000000 in
theorem c_m_remember (l : Launch) (g : zG) (mo : Nat) (qT : Nat) (qL : Nat) (it : Nat) (il : Nat) (ig : Nat) (mh : Int32) (me : Int32) (mx : Int32) (fT : Nat → Option Nat) (fL : Nat → Option Nat) (o : Nat) (a : Nat → Nat) (pe : Int32) (wo : Int32) (tx : Int32) (ch : Int32) (jo : Int32) (tr : Int32) (dy : Int32) (sd : Int32) (f : Nat → Nat → Int32) (go : Nat) (gr : Nat) (gz : Int32) (gn : Int32) (fr : Nat → Int32) (PT : Nat → zTR) (PL : Nat → zLR) (b_me : 0 ≤ me.toInt ∧ me.toInt ≤ 12) (b_mx : 0 ≤ mx.toInt ∧ mx.toInt ≤ 11) (b_pe : 0 ≤ pe.toInt ∧ pe.toInt ≤ 8) (b_wo : 0 ≤ wo.toInt ∧ wo.toInt ≤ 6) (rf : zZ4 f) (b_gz : 0 ≤ gz.toInt ∧ gz.toInt ≤ 60) (b_gn : 0 ≤ gn.toInt ∧ gn.toInt ≤ 59) (hPT : zPT fT PT) (hPL : zPL fL PL) : zM' g l yX4_remember (Cond.code yX4_remember cX4_remember 3 none :: zB) ({ frames := 2, cells := 0, slots := 0, locals := 61 } : Room) [.ref mo, .ref o, .ref go] [bMem g mo qT qL it il ig mh me mx fT fL, bTown g o a pe wo tx ch jo tr dy sd f, bLog g go gr gz gn fr, bPT g PT, bPL g PL] (fun u : Int32 × Int32 × (Nat → zTR) × (Nat → zLR) => (fun (me2 : Int32) (mx2 : Int32) (PT2 : Nat → zTR) (PL2 : Nat → zLR) => none) (u.1) (u.2.1) (u.2.2.1) (u.2.2.2)) (fun u : Int32 × Int32 × (Nat → zTR) × (Nat → zLR) => (fun (me2 : Int32) (mx2 : Int32) (PT2 : Nat → zTR) (PL2 : Nat → zLR) => (0 ≤ me2.toInt ∧ me2.toInt ≤ 12) ∧ (0 ≤ mx2.toInt ∧ mx2.toInt ≤ 11) ∧ (zPT fT PT2) ∧ (zPL fL PL2)) (u.1) (u.2.1) (u.2.2.1) (u.2.2.2)) (fun u : Int32 × Int32 × (Nat → zTR) × (Nat → zLR) => (fun (me2 : Int32) (mx2 : Int32) (PT2 : Nat → zTR) (PL2 : Nat → zLR) => [bMem g mo qT qL it il ig mh me2 mx2 fT fL, bTown g o a pe wo tx ch jo tr dy sd f, bLog g go gr gz gn fr, bPT g PT2, bPL g PL2]) (u.1) (u.2.1) (u.2.2.1) (u.2.2.2)) := by
  refine zM'.of (cc := cX4_remember) (maxL := 3) (rt := none) (by decide) rfl (Nat.le_of_ble_eq_true rfl) ?_
  intro p e s m args below meth c A ls St hr hlocks hin hK hT hA hP hD hS hl
  obtain ⟨hx, hb, hml, hown, hts⟩ := id St
  have hl : lv_has ls 3 [(0, .ref mo), (1, .ref o), (2, .ref go)] := hl
  refine lv_aload_n hx hb dX4_remember_0 rfl (lv_at hl 0 rfl) ?_
  refine va_get (D := g.1) (ci := 4) (v := .ref qT) (C := RX4) (T := TX4) (N := 8) hx hb hts izRX4 hown hK hP 0 rfl rfl 0 (by decide) (hts _ k349) (fun _ h9 => h9) rfl dX4_remember_1 ?_
  refine lv_aload_n hx hb dX4_remember_4 rfl (lv_at hl 0 rfl) ?_
  refine va_get (D := g.1) (ci := 4) (v := .int mx) (C := RX4) (T := TX4) (N := 8) hx hb hts izRX4 hown hK hP 0 rfl rfl 7 (by decide) (hts _ k361) (fun _ h9 => h9) rfl dX4_remember_5 ?_
  have hP : va_P g.1 vwCl (List.flatten [bMem g mo qT qL it il ig mh me mx fT fL, bTown g o a pe wo tx ch jo tr dy sd f, bLog g go gr gz gn fr, bPT g PT, bPL g PL]) s.heap := hP
  have hD : va_D A (List.flatten [bMem g mo qT qL it il ig mh me mx fT fL, bTown g o a pe wo tx ch jo tr dy sd f, bLog g go gr gz gn fr, bPT g PT, bPL g PL]) := hD
  obtain ⟨hP, hD⟩ := zord (g := g) (Bs' := [bMem g mo qT qL it il ig mh me mx fT fL, bTown g o a pe wo tx ch jo tr dy sd f, bLog g go gr gz gn fr, bPL g PL, bPT g PT]) [0, 1, 2, 4, 3] rfl rfl hP hD
  have hi1 : mx.toNatClampNeg < 12 := by rw [zcl]; omega
  obtain ⟨o_2, a_3, pe_4, wo_5, tx_6, ch_7, jo_8, tr_9, dy_10, sd_11, f_12, hu13, hu14, hu15, rf_12, hP, hD⟩ := zopT (g := g) (A := A) mx.toNatClampNeg [bMem g mo qT qL it il ig mh me mx fT fL, bTown g o a pe wo tx ch jo tr dy sd f, bLog g go gr gz gn fr, bPL g PL] hi1 hPT hP hD
  have hP : va_P g.1 vwCl (List.flatten [bTown g o_2 a_3 pe_4 wo_5 tx_6 ch_7 jo_8 tr_9 dy_10 sd_11 f_12, bMem g mo qT qL it il ig mh me mx fT fL, bTown g o a pe wo tx ch jo tr dy sd f, bLog g go gr gz gn fr, bPL g PL, bPTx g PT mx.toNatClampNeg]) s.heap := hP
  have hD : va_D A (List.flatten [bTown g o_2 a_3 pe_4 wo_5 tx_6 ch_7 jo_8 tr_9 dy_10 sd_11 f_12, bMem g mo qT qL it il ig mh me mx fT fL, bTown g o a pe wo tx ch jo tr dy sd f, bLog g go gr gz gn fr, bPL g PL, bPTx g PT mx.toNatClampNeg]) := hD
  refine va_aldq hx hb hK hP 13 3 rfl rfl (zinK (a := 0) (b := 11) b_mx.1 b_mx.2 (by decide)) dX4_remember_8 ?_
  refine W.eq (g2 := F0 m 9 ls (.ref o_2 :: [])) (by rw [show fT (Int32.toNatClampNeg mx) = some o_2 from hu13]; rfl) ?_
  refine lv_aload_n hx hb dX4_remember_9 rfl (lv_at hl 1 rfl) ?_
  refine mcallV' (g := g) (q0 := 0) (ci := 7) (As := [.ref o]) (rest := []) St hK hT hA hP hD hS hl.1 [0, 2] [1, 3, 4, 5] rfl rfl rfl (c_copyFrom l g o_2 a_3 pe_4 wo_5 tx_6 ch_7 jo_8 tr_9 dy_10 sd_11 f_12 o a pe wo tx ch jo tr dy sd f b_pe b_wo rf) (cwV 1 hts (zgL (zl4 k363 k157 k158 k24) k30) rfl rfl rfl (by decide +kernel) ⟨Nat.le_of_ble_eq_true rfl, Nat.le_of_ble_eq_true rfl⟩) rfl rfl rfl rfl (Nat.le_of_ble_eq_true rfl) dX4_remember_10 ⟨(Nat.le_of_ble_eq_true rfl), (Nat.le_of_ble_eq_true rfl)⟩ (fun h_16 H locs hq17 hP hD hS => ?_)
  replace hq17 : (zZ4 h_16) := hq17
  have hP : va_P g.1 vwCl (List.flatten [bMem g mo qT qL it il ig mh me mx fT fL, bLog g go gr gz gn fr, bPL g PL, bPTx g PT mx.toNatClampNeg, bTown g o_2 a_3 pe wo tx ch jo tr dy sd h_16, bTown g o a pe wo tx ch jo tr dy sd f]) H := hP
  have hD : va_D A (List.flatten [bMem g mo qT qL it il ig mh me mx fT fL, bLog g go gr gz gn fr, bPL g PL, bPTx g PT mx.toNatClampNeg, bTown g o_2 a_3 pe wo tx ch jo tr dy sd h_16, bTown g o a pe wo tx ch jo tr dy sd f]) := hD
  refine W.widen (k := 0) (n := 0) (Nat.le_of_ble_eq_true rfl) (Nat.le_of_ble_eq_true rfl) ?_
  refine W.eq (g2 := F0 m 13 ls []) rfl ?_
  have hP : va_P g.1 vwCl (List.flatten [bMem g mo qT qL it il ig mh me mx fT fL, bLog g go gr gz gn fr, bPL g PL, bPTx g PT mx.toNatClampNeg, bTown g o_2 a_3 pe wo tx ch jo tr dy sd h_16, bTown g o a pe wo tx ch jo tr dy sd f]) H := hP
  have hD : va_D A (List.flatten [bMem g mo qT qL it il ig mh me mx fT fL, bLog g go gr gz gn fr, bPL g PL, bPTx g PT mx.toNatClampNeg, bTown g o_2 a_3 pe wo tx ch jo tr dy sd h_16, bTown g o a pe wo tx ch jo tr dy sd f]) := hD
  obtain ⟨hP, hD⟩ := zord (g := g) (Bs' := [bMem g mo qT qL it il ig mh me mx fT fL, bLog g go gr gz gn fr, bTown g o_2 a_3 pe wo tx ch jo tr dy sd h_16, bTown g o a pe wo tx ch jo tr dy sd f, bPL g PL, bPTx g PT mx.toNatClampNeg]) [0, 1, 4, 5, 2, 3] rfl rfl hP hD
  have rh_16 := hq17; clear hq17
  have hP : va_P g.1 vwCl (List.flatten [bMem g mo qT qL it il ig mh me mx fT fL, bLog g go gr gz gn fr, bTown g o_2 a_3 pe wo tx ch jo tr dy sd h_16, bTown g o a pe wo tx ch jo tr dy sd f, bPL g PL, bPTx g PT mx.toNatClampNeg]) H := hP
  have hD : va_D A (List.flatten [bMem g mo qT qL it il ig mh me mx fT fL, bLog g go gr gz gn fr, bTown g o_2 a_3 pe wo tx ch jo tr dy sd h_16, bTown g o a pe wo tx ch jo tr dy sd f, bPL g PL, bPTx g PT mx.toNatClampNeg]) := hD
  obtain ⟨hP, hD⟩ := zord (g := g) (Bs' := [bTown g o_2 a_3 pe wo tx ch jo tr dy sd h_16, bMem g mo qT qL it il ig mh me mx fT fL, bLog g go gr gz gn fr, bTown g o a pe wo tx ch jo tr dy sd f, bPL g PL, bPTx g PT mx.toNatClampNeg]) [2, 0, 1, 3, 4, 5] rfl rfl hP hD
  obtain ⟨PT_18, hp19, hP, hD⟩ := zclT (g := g) (A := A) [bMem g mo qT qL it il ig mh me mx fT fL, bLog g go gr gz gn fr, bTown g o a pe wo tx ch jo tr dy sd f, bPL g PL] hi1 hPT hu13 ⟨b_pe.1, b_pe.2⟩ ⟨b_wo.1, b_wo.2⟩ rh_16 hP hD
  have hP : va_P g.1 vwCl (List.flatten [bMem g mo qT qL it il ig mh me mx fT fL, bLog g go gr gz gn fr, bTown g o a pe wo tx ch jo tr dy sd f, bPL g PL, bPT g PT_18]) H := hP
  have hD : va_D A (List.flatten [bMem g mo qT qL it il ig mh me mx fT fL, bLog g go gr gz gn fr, bTown g o a pe wo tx ch jo tr dy sd f, bPL g PL, bPT g PT_18]) := hD
  refine lv_aload_n hx hb dX4_remember_13 rfl (lv_at hl 0 rfl) ?_
  refine va_get (D := g.1) (ci := 4) (v := .ref qL) (C := RX4) (T := TX4) (N := 8) hx hb hts izRX4 hown hK hP 0 rfl rfl 1 (by decide) (hts _ k351) (fun _ h9 => h9) rfl dX4_remember_14 ?_
  refine lv_aload_n hx hb dX4_remember_17 rfl (lv_at hl 0 rfl) ?_
  refine va_get (D := g.1) (ci := 4) (v := .int mx) (C := RX4) (T := TX4) (N := 8) hx hb hts izRX4 hown hK hP 0 rfl rfl 7 (by decide) (hts _ k361) (fun _ h9 => h9) rfl dX4_remember_18 ?_
  have hP : va_P g.1 vwCl (List.flatten [bMem g mo qT qL it il ig mh me mx fT fL, bLog g go gr gz gn fr, bTown g o a pe wo tx ch jo tr dy sd f, bPL g PL, bPT g PT_18]) H := hP
  have hD : va_D A (List.flatten [bMem g mo qT qL it il ig mh me mx fT fL, bLog g go gr gz gn fr, bTown g o a pe wo tx ch jo tr dy sd f, bPL g PL, bPT g PT_18]) := hD
  obtain ⟨hP, hD⟩ := zord (g := g) (Bs' := [bMem g mo qT qL it il ig mh me mx fT fL, bLog g go gr gz gn fr, bTown g o a pe wo tx ch jo tr dy sd f, bPT g PT_18, bPL g PL]) [0, 1, 2, 4, 3] rfl rfl hP hD
  have hi20 : mx.toNatClampNeg < 12 := by rw [zcl]; omega
  obtain ⟨go_21, gr_22, gz_23, gn_24, fr_25, hu26, hu27, hu28, hP, hD⟩ := zopL (g := g) (A := A) mx.toNatClampNeg [bMem g mo qT qL it il ig mh me mx fT fL, bLog g go gr gz gn fr, bTown g o a pe wo tx ch jo tr dy sd f, bPT g PT_18] hi20 hPL hP hD
  have hP : va_P g.1 vwCl (List.flatten [bLog g go_21 gr_22 gz_23 gn_24 fr_25, bMem g mo qT qL it il ig mh me mx fT fL, bLog g go gr gz gn fr, bTown g o a pe wo tx ch jo tr dy sd f, bPT g PT_18, bPLx g PL mx.toNatClampNeg]) H := hP
  have hD : va_D A (List.flatten [bLog g go_21 gr_22 gz_23 gn_24 fr_25, bMem g mo qT qL it il ig mh me mx fT fL, bLog g go gr gz gn fr, bTown g o a pe wo tx ch jo tr dy sd f, bPT g PT_18, bPLx g PL mx.toNatClampNeg]) := hD
  refine va_aldq hx hb hK hP 4 4 rfl rfl (zinK (a := 0) (b := 11) b_mx.1 b_mx.2 (by decide)) dX4_remember_21 ?_
  refine W.eq (g2 := F0 m 22 ls (.ref go_21 :: [])) (by rw [show fL (Int32.toNatClampNeg mx) = some go_21 from hu26]; rfl) ?_
  refine lv_aload_n hx hb dX4_remember_22 rfl (lv_at hl 2 rfl) ?_
  refine mcallV' (g := g) (q0 := 0) (ci := 3) (As := [.ref go]) (rest := []) St hK hT hA hP hD hS hl.1 [0, 2] [1, 3, 4, 5] rfl rfl rfl (c_g_copyFrom l g go_21 gr_22 gz_23 gn_24 fr_25 go gr gz gn fr b_gz b_gn) (cwV 1 hts (zgL (zl4 k364 k365 k366 k123) k331) rfl rfl rfl (by decide +kernel) ⟨Nat.le_of_ble_eq_true rfl, Nat.le_of_ble_eq_true rfl⟩) rfl rfl rfl rfl (Nat.le_of_ble_eq_true rfl) dX4_remember_23 ⟨(Nat.le_of_ble_eq_true rfl), (Nat.le_of_ble_eq_true rfl)⟩ (fun h_29 H locs hq30 hP hD hS => ?_)
  have hP : va_P g.1 vwCl (List.flatten [bMem g mo qT qL it il ig mh me mx fT fL, bTown g o a pe wo tx ch jo tr dy sd f, bPT g PT_18, bPLx g PL mx.toNatClampNeg, bLog g go_21 gr_22 gz gn h_29, bLog g go gr gz gn fr]) H := hP
  have hD : va_D A (List.flatten [bMem g mo qT qL it il ig mh me mx fT fL, bTown g o a pe wo tx ch jo tr dy sd f, bPT g PT_18, bPLx g PL mx.toNatClampNeg, bLog g go_21 gr_22 gz gn h_29, bLog g go gr gz gn fr]) := hD
  refine W.widen (k := 0) (n := 0) (Nat.le_of_ble_eq_true rfl) (Nat.le_of_ble_eq_true rfl) ?_
  refine W.eq (g2 := F0 m 26 ls []) rfl ?_
  have hP : va_P g.1 vwCl (List.flatten [bMem g mo qT qL it il ig mh me mx fT fL, bTown g o a pe wo tx ch jo tr dy sd f, bPT g PT_18, bPLx g PL mx.toNatClampNeg, bLog g go_21 gr_22 gz gn h_29, bLog g go gr gz gn fr]) H := hP
  have hD : va_D A (List.flatten [bMem g mo qT qL it il ig mh me mx fT fL, bTown g o a pe wo tx ch jo tr dy sd f, bPT g PT_18, bPLx g PL mx.toNatClampNeg, bLog g go_21 gr_22 gz gn h_29, bLog g go gr gz gn fr]) := hD
  obtain ⟨hP, hD⟩ := zord (g := g) (Bs' := [bMem g mo qT qL it il ig mh me mx fT fL, bTown g o a pe wo tx ch jo tr dy sd f, bLog g go_21 gr_22 gz gn h_29, bLog g go gr gz gn fr, bPT g PT_18, bPLx g PL mx.toNatClampNeg]) [0, 1, 4, 5, 2, 3] rfl rfl hP hD
  have hP : va_P g.1 vwCl (List.flatten [bMem g mo qT qL it il ig mh me mx fT fL, bTown g o a pe wo tx ch jo tr dy sd f, bLog g go_21 gr_22 gz gn h_29, bLog g go gr gz gn fr, bPT g PT_18, bPLx g PL mx.toNatClampNeg]) H := hP
  have hD : va_D A (List.flatten [bMem g mo qT qL it il ig mh me mx fT fL, bTown g o a pe wo tx ch jo tr dy sd f, bLog g go_21 gr_22 gz gn h_29, bLog g go gr gz gn fr, bPT g PT_18, bPLx g PL mx.toNatClampNeg]) := hD
  obtain ⟨hP, hD⟩ := zord (g := g) (Bs' := [bLog g go_21 gr_22 gz gn h_29, bMem g mo qT qL it il ig mh me mx fT fL, bTown g o a pe wo tx ch jo tr dy sd f, bLog g go gr gz gn fr, bPT g PT_18, bPLx g PL mx.toNatClampNeg]) [2, 0, 1, 3, 4, 5] rfl rfl hP hD
  obtain ⟨PL_31, hp32, hP, hD⟩ := zclL (g := g) (A := A) [bMem g mo qT qL it il ig mh me mx fT fL, bTown g o a pe wo tx ch jo tr dy sd f, bLog g go gr gz gn fr, bPT g PT_18] hi20 hPL hu26 ⟨b_gz.1, b_gz.2⟩ ⟨b_gn.1, b_gn.2⟩ hP hD
  have hP : va_P g.1 vwCl (List.flatten [bMem g mo qT qL it il ig mh me mx fT fL, bTown g o a pe wo tx ch jo tr dy sd f, bLog g go gr gz gn fr, bPT g PT_18, bPL g PL_31]) H := hP
  have hD : va_D A (List.flatten [bMem g mo qT qL it il ig mh me mx fT fL, bTown g o a pe wo tx ch jo tr dy sd f, bLog g go gr gz gn fr, bPT g PT_18, bPL g PL_31]) := hD
  refine lv_aload_n hx hb dX4_remember_26 rfl (lv_at hl 0 rfl) ?_
  refine lv_aload_n hx hb dX4_remember_27 rfl (lv_at hl 0 rfl) ?_
  refine va_get (D := g.1) (ci := 4) (v := .int mx) (C := RX4) (T := TX4) (N := 8) hx hb hts izRX4 hown hK hP 0 rfl rfl 7 (by decide) (hts _ k361) (fun _ h9 => h9) rfl dX4_remember_28 ?_
  refine lv_iconst (v := 1) hx hb dX4_remember_31 (by decide) ?_
  refine lv_iadd hx hb dX4_remember_32 ?_
  refine zg3 (zaddK (i := mx.toInt) (j := 1) (a' := 1) (b' := 12) rfl (by decide) b_mx.1 b_mx.2 (Int.le_refl _) (Int.le_refl _) (by decide)) (fun x_33 hx_33 => ?_)
  refine lv_bipush (v := 12) hx hb dX4_remember_33 (by decide) ?_
  refine lv_irem hx hb dX4_remember_35 (by decide) ?_
  refine zgb (zrem (j := x_33.toInt) (d := 12) rfl (by decide) (Int.le_trans (by decide) hx_33.2.1) (by decide)) (fun x_34 hx_34 => ?_)
  refine va_put (D := g.1) (ci := 4) (v := .int x_34) (ty := .int) (C := RX4) (T := TX4) (N := 8) hx hb hts izRX4 tyX4 tyX4_ok nmX4 hown hK hP hD hS 0 rfl rfl 7 (by decide) (hts _ k361) (fun _ h9 => h9) rfl (by decide +kernel) rfl rfl (Nat.le_of_ble_eq_true rfl) dX4_remember_36 (fun H locs hP hD hS => ?_)
  have hP : va_P g.1 vwCl (List.flatten [bMem g mo qT qL it il ig mh me x_34 fT fL, bTown g o a pe wo tx ch jo tr dy sd f, bLog g go gr gz gn fr, bPT g PT_18, bPL g PL_31]) H := hP
  have hD : va_D A (List.flatten [bMem g mo qT qL it il ig mh me x_34 fT fL, bTown g o a pe wo tx ch jo tr dy sd f, bLog g go gr gz gn fr, bPT g PT_18, bPL g PL_31]) := hD
  refine lv_aload_n hx hb dX4_remember_39 rfl (lv_at hl 0 rfl) ?_
  refine lv_bipush (v := 12) hx hb dX4_remember_40 (by decide) ?_
  refine lv_aload_n hx hb dX4_remember_42 rfl (lv_at hl 0 rfl) ?_
  refine va_get (D := g.1) (ci := 4) (v := .int me) (C := RX4) (T := TX4) (N := 8) hx hb hts izRX4 hown hK hP 0 rfl rfl 6 (by decide) (hts _ k360) (fun _ h9 => h9) rfl dX4_remember_43 ?_
  refine lv_iconst (v := 1) hx hb dX4_remember_46 (by decide) ?_
  refine lv_iadd hx hb dX4_remember_47 ?_
  refine zg3 (zaddK (i := me.toInt) (j := 1) (a' := 1) (b' := 13) rfl (by decide) b_me.1 b_me.2 (Int.le_refl _) (Int.le_refl _) (by decide)) (fun x_35 hx_35 => ?_)
  refine va_mmin hx hb (by rw [hml]; exact hl.1.symm) hown (hts _ k362) (hts _ k41) (hts _ k42) (hts _ k43) (Nat.le_of_ble_eq_true rfl) (Nat.le_of_ble_eq_true rfl) (Nat.le_of_ble_eq_true rfl) (Nat.le_of_ble_eq_true rfl) dX4_remember_48 ?_
  refine zgmn (i := 12) (j := x_35.toInt) (by decide) rfl (fun x_36 hx_36 => ?_)
  refine va_put (D := g.1) (ci := 4) (v := .int x_36) (ty := .int) (C := RX4) (T := TX4) (N := 8) hx hb hts izRX4 tyX4 tyX4_ok nmX4 hown hK hP hD hS 0 rfl rfl 6 (by decide) (hts _ k360) (fun _ h9 => h9) rfl (by decide +kernel) rfl rfl (Nat.le_of_ble_eq_true rfl) dX4_remember_51 (fun H locs hP hD hS => ?_)
  have hP : va_P g.1 vwCl (List.flatten [bMem g mo qT qL it il ig mh x_36 x_34 fT fL, bTown g o a pe wo tx ch jo tr dy sd f, bLog g go gr gz gn fr, bPT g PT_18, bPL g PL_31]) H := hP
  have hD : va_D A (List.flatten [bMem g mo qT qL it il ig mh x_36 x_34 fT fL, bTown g o a pe wo tx ch jo tr dy sd f, bLog g go gr gz gn fr, bPT g PT_18, bPL g PL_31]) := hD
  have hP : va_P g.1 vwCl (List.flatten [bMem g mo qT qL it il ig mh x_36 x_34 fT fL, bTown g o a pe wo tx ch jo tr dy sd f, bLog g go gr gz gn fr, bPT g PT_18, bPL g PL_31]) H := hP
  have hD : va_D A (List.flatten [bMem g mo qT qL it il ig mh x_36 x_34 fT fL, bTown g o a pe wo tx ch jo tr dy sd f, bLog g go gr gz gn fr, bPT g PT_18, bPL g PL_31]) := hD
  exact mret_v hx hb hr hlocks hS (Nat.le_of_ble_eq_true rfl) (Nat.le_of_ble_eq_true rfl) dX4_remember_54 (x_36, x_34, PT_18, PL_31) rfl (show (0 ≤ x_36.toInt ∧ x_36.toInt ≤ 12) ∧ (0 ≤ x_34.toInt ∧ x_34.toInt ≤ 11) ∧ (zPT fT PT_18) ∧ (zPL fL PL_31) from ⟨(by first | assumption | omega | decide | exact rfl | exact zb01 (by omega) | exact Or.inl (by decide) | exact Or.inr (by first | omega | decide)), (by first | assumption | omega | decide | exact rfl | exact zb01 (by omega) | exact Or.inl (by decide) | exact Or.inr (by first | omega | decide)), hp19, hp32⟩) hP hD
