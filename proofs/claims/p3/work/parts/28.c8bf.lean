set_option maxRecDepth 100000 in
set_option maxHeartbeats 4000000 in
theorem c_x_buy (l : Launch) (hfl : l.stackTraces = false) (g : zG) (x : Nat) (ta : Nat) (o : Nat) (lo : Nat) (go : Nat) (tt : Nat) (lt : Nat) (mo : Nat) (fo : Nat) (ro : Nat) (fl9 : Int32) (a : Nat → Nat) (pe : Int32) (wo : Int32) (tx : Int32) (ch : Int32) (jo : Int32) (tr : Int32) (dy : Int32) (sd : Int32) (f : Nat → Nat → Int32) (gr : Nat) (gz : Int32) (gn : Int32) (fr : Nat → Int32) (qT : Nat) (qL : Nat) (it : Nat) (il : Nat) (ig : Nat) (mh : Int32) (me : Int32) (mx : Int32) (fT : Nat → Option Nat) (fL : Nat → Option Nat) (PT : Nat → zTR) (PL : Nat → zLR) (pp : Int32) (n : Int32) (b_pe : 0 ≤ pe.toInt ∧ pe.toInt ≤ 8) (b_wo : 0 ≤ wo.toInt ∧ wo.toInt ≤ 6) (rf : zZ4 f) (b_gz : 0 ≤ gz.toInt ∧ gz.toInt ≤ 60) (b_gn : 0 ≤ gn.toInt ∧ gn.toInt ≤ 59) (b_me : 0 ≤ me.toInt ∧ me.toInt ≤ 12) (b_mx : 0 ≤ mx.toInt ∧ mx.toInt ≤ 11) (hPT : zPT fT PT) (hPL : zPL fL PL) : zX' g l yX11_buy (Cond.code yX11_buy cX11_buy 4 (some .int) :: zB) ({ frames := 7, cells := 3, slots := 18, locals := 105 } : Room) [.ref x, .int pp, .int n] [bDR g x ta o lo go tt lt mo fo ro fl9, bTown g o a pe wo tx ch jo tr dy sd f, bLog g go gr gz gn fr, bMem g mo qT qL it il ig mh me mx fT fL, bPT g PT, bPL g PL] (fun u : (Nat → Nat → Int32) × Int32 × Int32 × Int32 × (Nat → zTR) × (Nat → zLR) × Int32 => (fun (f2 : Nat → Nat → Int32) (ch2 : Int32) (me2 : Int32) (mx2 : Int32) (PT2 : Nat → zTR) (PL2 : Nat → zLR) (q : Int32) => some (.int q)) (u.1) (u.2.1) (u.2.2.1) (u.2.2.2.1) (u.2.2.2.2.1) (u.2.2.2.2.2.1) (u.2.2.2.2.2.2)) (fun u : (Nat → Nat → Int32) × Int32 × Int32 × Int32 × (Nat → zTR) × (Nat → zLR) × Int32 => (fun (f2 : Nat → Nat → Int32) (ch2 : Int32) (me2 : Int32) (mx2 : Int32) (PT2 : Nat → zTR) (PL2 : Nat → zLR) (q : Int32) => (zZ4 f2) ∧ (0 ≤ me2.toInt ∧ me2.toInt ≤ 12) ∧ (0 ≤ mx2.toInt ∧ mx2.toInt ≤ 11) ∧ (zPT fT PT2) ∧ (zPL fL PL2)) (u.1) (u.2.1) (u.2.2.1) (u.2.2.2.1) (u.2.2.2.2.1) (u.2.2.2.2.2.1) (u.2.2.2.2.2.2)) (fun u : (Nat → Nat → Int32) × Int32 × Int32 × Int32 × (Nat → zTR) × (Nat → zLR) × Int32 => (fun (f2 : Nat → Nat → Int32) (ch2 : Int32) (me2 : Int32) (mx2 : Int32) (PT2 : Nat → zTR) (PL2 : Nat → zLR) (q : Int32) => [bDR g x ta o lo go tt lt mo fo ro fl9, bTown g o a pe wo tx ch2 jo tr dy sd f2, bLog g go gr gz gn fr, bMem g mo qT qL it il ig mh me2 mx2 fT fL, bPT g PT2, bPL g PL2]) (u.1) (u.2.1) (u.2.2.1) (u.2.2.2.1) (u.2.2.2.2.1) (u.2.2.2.2.2.1) (u.2.2.2.2.2.2)) (fun (E : String) => fun u : (Nat → Nat → Int32) × Int32 × Int32 × Int32 × (Nat → zTR) × (Nat → zLR) => (fun (f2 : Nat → Nat → Int32) (ch2 : Int32) (me2 : Int32) (mx2 : Int32) (PT2 : Nat → zTR) (PL2 : Nat → zLR) => (E = "java/lang/IndexOutOfBoundsException" ∨ E = "java/lang/IllegalArgumentException" ∨ E = "java/lang/IllegalStateException") ∧ (zZ4 f2) ∧ (0 ≤ me2.toInt ∧ me2.toInt ≤ 12) ∧ (0 ≤ mx2.toInt ∧ mx2.toInt ≤ 11) ∧ (zPT fT PT2) ∧ (zPL fL PL2)) (u.1) (u.2.1) (u.2.2.1) (u.2.2.2.1) (u.2.2.2.2.1) (u.2.2.2.2.2)) (fun u : (Nat → Nat → Int32) × Int32 × Int32 × Int32 × (Nat → zTR) × (Nat → zLR) => (fun (f2 : Nat → Nat → Int32) (ch2 : Int32) (me2 : Int32) (mx2 : Int32) (PT2 : Nat → zTR) (PL2 : Nat → zLR) => [bDR g x ta o lo go tt lt mo fo ro fl9, bTown g o a pe wo tx ch2 jo tr dy sd f2, bLog g go gr gz gn fr, bMem g mo qT qL it il ig mh me2 mx2 fT fL, bPT g PT2, bPL g PL2]) (u.1) (u.2.1) (u.2.2.1) (u.2.2.2.1) (u.2.2.2.2.1) (u.2.2.2.2.2)) := by
  refine zX'.of (cc := cX11_buy) (maxL := 4) (rt := (some .int)) (by decide) rfl (Nat.le_of_ble_eq_true rfl) ?_
  intro p e s m args below meth c A ls St hr hlocks htab hin hK hT hA hP hD hS hl
  obtain ⟨hx, hb, hml, hown, hts⟩ := id St
  have hl : lv_has ls 4 [(0, .ref x), (1, .int pp), (2, .int n)] := hl
  refine lv_aload_n hx hb dX11_buy_0 rfl (lv_at hl 0 rfl) ?_
  refine lv_iload_n hx hb dX11_buy_1 rfl (lv_at hl 1 rfl) ?_
  refine xcallV' (g := g) (q0 := 0) (ci := 9) (As := [.int pp]) (rest := []) St hK hT hA hP hD hS hl.1 [0, 1] [2, 3, 4, 5] rfl rfl rfl (c_x_needPerson l hfl g x ta o lo go tt lt mo fo ro fl9 a pe wo tx ch jo tr dy sd f pp b_pe b_wo rf) (cwV 1 hts (zgL (zl4 k618 k619 k620 k621) k607) rfl rfl rfl (by decide +kernel) ⟨Nat.le_of_ble_eq_true rfl, Nat.le_of_ble_eq_true rfl⟩) rfl rfl rfl rfl (Nat.le_of_ble_eq_true rfl) dX11_buy_2 ⟨(Nat.le_of_ble_eq_true rfl), (Nat.le_of_ble_eq_true rfl)⟩ (fun E ce q9 u9 H locs hpx hP hD hS hce hcv hcl => ?_) (fun _u H locs hq1 hP hD hS => ?_)
  · skip
    have hpx : (E = "java/lang/IndexOutOfBoundsException") := hpx
    have hP : va_P g.1 vwCl (List.flatten [bLog g go gr gz gn fr, bMem g mo qT qL it il ig mh me mx fT fL, bPT g PT, bPL g PL, bDR g x ta o lo go tt lt mo fo ro fl9, bTown g o a pe wo tx ch jo tr dy sd f]) H := hP
    have hD : va_D A (List.flatten [bLog g go gr gz gn fr, bMem g mo qT qL it il ig mh me mx fT fL, bPT g PT, bPL g PL, bDR g x ta o lo go tt lt mo fo ro fl9, bTown g o a pe wo tx ch jo tr dy sd f]) := hD
    have hP : va_P g.1 vwCl (List.flatten [bLog g go gr gz gn fr, bMem g mo qT qL it il ig mh me mx fT fL, bPT g PT, bPL g PL, bDR g x ta o lo go tt lt mo fo ro fl9, bTown g o a pe wo tx ch jo tr dy sd f]) H := hP
    have hD : va_D A (List.flatten [bLog g go gr gz gn fr, bMem g mo qT qL it il ig mh me mx fT fL, bPT g PT, bPL g PL, bDR g x ta o lo go tt lt mo fo ro fl9, bTown g o a pe wo tx ch jo tr dy sd f]) := hD
    obtain ⟨hP, hD⟩ := zord (g := g) (Bs' := [bLog g go gr gz gn fr, bMem g mo qT qL it il ig mh me mx fT fL, bDR g x ta o lo go tt lt mo fo ro fl9, bTown g o a pe wo tx ch jo tr dy sd f, bPT g PT, bPL g PL]) [0, 1, 4, 5, 2, 3] rfl rfl hP hD
    have hP : va_P g.1 vwCl (List.flatten [bLog g go gr gz gn fr, bMem g mo qT qL it il ig mh me mx fT fL, bDR g x ta o lo go tt lt mo fo ro fl9, bTown g o a pe wo tx ch jo tr dy sd f, bPT g PT, bPL g PL]) H := hP
    have hD : va_D A (List.flatten [bLog g go gr gz gn fr, bMem g mo qT qL it il ig mh me mx fT fL, bDR g x ta o lo go tt lt mo fo ro fl9, bTown g o a pe wo tx ch jo tr dy sd f, bPT g PT, bPL g PL]) := hD
    obtain ⟨hP, hD⟩ := zord (g := g) (Bs' := [bDR g x ta o lo go tt lt mo fo ro fl9, bTown g o a pe wo tx ch jo tr dy sd f, bLog g go gr gz gn fr, bMem g mo qT qL it il ig mh me mx fT fL, bPT g PT, bPL g PL]) [2, 3, 0, 1, 4, 5] rfl rfl hP hD
    exact zout htab hlocks hS (Nat.le_of_ble_eq_true rfl) (Nat.le_of_ble_eq_true rfl) hce hcv hcl (f, ch, me, mx, PT, PL) (show (E = "java/lang/IndexOutOfBoundsException" ∨ E = "java/lang/IllegalArgumentException" ∨ E = "java/lang/IllegalStateException") ∧ (zZ4 f) ∧ (0 ≤ me.toInt ∧ me.toInt ≤ 12) ∧ (0 ≤ mx.toInt ∧ mx.toInt ≤ 11) ∧ (zPT fT PT) ∧ (zPL fL PL) from ⟨(Or.inl hpx), (show zZ4 f from rf), (show 0 ≤ me.toInt ∧ me.toInt ≤ 12 from b_me), (show 0 ≤ mx.toInt ∧ mx.toInt ≤ 11 from b_mx), (show zPT fT PT from hPT), (show zPL fL PL from hPL)⟩) hP hD
  · skip
    replace hq1 : (0 ≤ pp.toInt ∧ pp.toInt ≤ 7) ∧ (pp.toInt < pe.toInt) := hq1
    have hP : va_P g.1 vwCl (List.flatten [bLog g go gr gz gn fr, bMem g mo qT qL it il ig mh me mx fT fL, bPT g PT, bPL g PL, bDR g x ta o lo go tt lt mo fo ro fl9, bTown g o a pe wo tx ch jo tr dy sd f]) H := hP
    have hD : va_D A (List.flatten [bLog g go gr gz gn fr, bMem g mo qT qL it il ig mh me mx fT fL, bPT g PT, bPL g PL, bDR g x ta o lo go tt lt mo fo ro fl9, bTown g o a pe wo tx ch jo tr dy sd f]) := hD
    refine W.widen (k := 1) (n := 6) (Nat.le_of_ble_eq_true rfl) (Nat.le_of_ble_eq_true rfl) ?_
    refine W.eq (g2 := F0 m 5 ls []) rfl ?_
    have hP : va_P g.1 vwCl (List.flatten [bLog g go gr gz gn fr, bMem g mo qT qL it il ig mh me mx fT fL, bPT g PT, bPL g PL, bDR g x ta o lo go tt lt mo fo ro fl9, bTown g o a pe wo tx ch jo tr dy sd f]) H := hP
    have hD : va_D A (List.flatten [bLog g go gr gz gn fr, bMem g mo qT qL it il ig mh me mx fT fL, bPT g PT, bPL g PL, bDR g x ta o lo go tt lt mo fo ro fl9, bTown g o a pe wo tx ch jo tr dy sd f]) := hD
    obtain ⟨hP, hD⟩ := zord (g := g) (Bs' := [bLog g go gr gz gn fr, bMem g mo qT qL it il ig mh me mx fT fL, bDR g x ta o lo go tt lt mo fo ro fl9, bTown g o a pe wo tx ch jo tr dy sd f, bPT g PT, bPL g PL]) [0, 1, 4, 5, 2, 3] rfl rfl hP hD
    obtain ⟨hq1_0, hq1_1⟩ := hq1
    refine lv_aload_n hx hb dX11_buy_5 rfl (lv_at hl 0 rfl) ?_
    refine lv_iload_n hx hb dX11_buy_6 rfl (lv_at hl 2 rfl) ?_
    refine lv_iconst (v := 1) hx hb dX11_buy_7 (by decide) ?_
    refine lv_bipush (v := 99) hx hb dX11_buy_8 (by decide) ?_
    refine xcallV' (g := g) (q0 := 0) (ci := 9) (As := [.int n, .int 1, .int 99]) (rest := []) St hK hT hA hP hD hS hl.1 [2] [0, 1, 3, 4, 5] rfl rfl rfl (c_x_nw_1_99 l hfl g x ta o lo go tt lt mo fo ro fl9 n ) (cwV 3 hts (zgL (zl4 k668 k669 k670 k621) k667) rfl rfl rfl (by decide +kernel) ⟨Nat.le_of_ble_eq_true rfl, Nat.le_of_ble_eq_true rfl⟩) rfl rfl rfl rfl (Nat.le_of_ble_eq_true rfl) dX11_buy_10 ⟨(Nat.le_of_ble_eq_true rfl), (Nat.le_of_ble_eq_true rfl)⟩ (fun E ce q9 u9 H locs hpx hP hD hS hce hcv hcl => ?_) (fun _u H locs hq2 hP hD hS => ?_)
    · skip
      have hpx : (E = "java/lang/IllegalArgumentException") := hpx
      have hP : va_P g.1 vwCl (List.flatten [bLog g go gr gz gn fr, bMem g mo qT qL it il ig mh me mx fT fL, bTown g o a pe wo tx ch jo tr dy sd f, bPT g PT, bPL g PL, bDR g x ta o lo go tt lt mo fo ro fl9]) H := hP
      have hD : va_D A (List.flatten [bLog g go gr gz gn fr, bMem g mo qT qL it il ig mh me mx fT fL, bTown g o a pe wo tx ch jo tr dy sd f, bPT g PT, bPL g PL, bDR g x ta o lo go tt lt mo fo ro fl9]) := hD
      have hP : va_P g.1 vwCl (List.flatten [bLog g go gr gz gn fr, bMem g mo qT qL it il ig mh me mx fT fL, bTown g o a pe wo tx ch jo tr dy sd f, bPT g PT, bPL g PL, bDR g x ta o lo go tt lt mo fo ro fl9]) H := hP
      have hD : va_D A (List.flatten [bLog g go gr gz gn fr, bMem g mo qT qL it il ig mh me mx fT fL, bTown g o a pe wo tx ch jo tr dy sd f, bPT g PT, bPL g PL, bDR g x ta o lo go tt lt mo fo ro fl9]) := hD
      obtain ⟨hP, hD⟩ := zord (g := g) (Bs' := [bLog g go gr gz gn fr, bMem g mo qT qL it il ig mh me mx fT fL, bTown g o a pe wo tx ch jo tr dy sd f, bDR g x ta o lo go tt lt mo fo ro fl9, bPT g PT, bPL g PL]) [0, 1, 2, 5, 3, 4] rfl rfl hP hD
      have hP : va_P g.1 vwCl (List.flatten [bLog g go gr gz gn fr, bMem g mo qT qL it il ig mh me mx fT fL, bTown g o a pe wo tx ch jo tr dy sd f, bDR g x ta o lo go tt lt mo fo ro fl9, bPT g PT, bPL g PL]) H := hP
      have hD : va_D A (List.flatten [bLog g go gr gz gn fr, bMem g mo qT qL it il ig mh me mx fT fL, bTown g o a pe wo tx ch jo tr dy sd f, bDR g x ta o lo go tt lt mo fo ro fl9, bPT g PT, bPL g PL]) := hD
      obtain ⟨hP, hD⟩ := zord (g := g) (Bs' := [bDR g x ta o lo go tt lt mo fo ro fl9, bTown g o a pe wo tx ch jo tr dy sd f, bLog g go gr gz gn fr, bMem g mo qT qL it il ig mh me mx fT fL, bPT g PT, bPL g PL]) [3, 2, 0, 1, 4, 5] rfl rfl hP hD
      exact zout htab hlocks hS (Nat.le_of_ble_eq_true rfl) (Nat.le_of_ble_eq_true rfl) hce hcv hcl (f, ch, me, mx, PT, PL) (show (E = "java/lang/IndexOutOfBoundsException" ∨ E = "java/lang/IllegalArgumentException" ∨ E = "java/lang/IllegalStateException") ∧ (zZ4 f) ∧ (0 ≤ me.toInt ∧ me.toInt ≤ 12) ∧ (0 ≤ mx.toInt ∧ mx.toInt ≤ 11) ∧ (zPT fT PT) ∧ (zPL fL PL) from ⟨(Or.inr (Or.inl hpx)), (show zZ4 f from rf), (show 0 ≤ me.toInt ∧ me.toInt ≤ 12 from b_me), (show 0 ≤ mx.toInt ∧ mx.toInt ≤ 11 from b_mx), (show zPT fT PT from hPT), (show zPL fL PL from hPL)⟩) hP hD
    · skip
      replace hq2 : (1 ≤ n.toInt ∧ n.toInt ≤ 99) := hq2
      have hP : va_P g.1 vwCl (List.flatten [bLog g go gr gz gn fr, bMem g mo qT qL it il ig mh me mx fT fL, bTown g o a pe wo tx ch jo tr dy sd f, bPT g PT, bPL g PL, bDR g x ta o lo go tt lt mo fo ro fl9]) H := hP
      have hD : va_D A (List.flatten [bLog g go gr gz gn fr, bMem g mo qT qL it il ig mh me mx fT fL, bTown g o a pe wo tx ch jo tr dy sd f, bPT g PT, bPL g PL, bDR g x ta o lo go tt lt mo fo ro fl9]) := hD
      refine W.widen (k := 2) (n := 12) (Nat.le_of_ble_eq_true rfl) (Nat.le_of_ble_eq_true rfl) ?_
      refine W.eq (g2 := F0 m 13 ls []) rfl ?_
      have hP : va_P g.1 vwCl (List.flatten [bLog g go gr gz gn fr, bMem g mo qT qL it il ig mh me mx fT fL, bTown g o a pe wo tx ch jo tr dy sd f, bPT g PT, bPL g PL, bDR g x ta o lo go tt lt mo fo ro fl9]) H := hP
      have hD : va_D A (List.flatten [bLog g go gr gz gn fr, bMem g mo qT qL it il ig mh me mx fT fL, bTown g o a pe wo tx ch jo tr dy sd f, bPT g PT, bPL g PL, bDR g x ta o lo go tt lt mo fo ro fl9]) := hD
      obtain ⟨hP, hD⟩ := zord (g := g) (Bs' := [bLog g go gr gz gn fr, bMem g mo qT qL it il ig mh me mx fT fL, bTown g o a pe wo tx ch jo tr dy sd f, bDR g x ta o lo go tt lt mo fo ro fl9, bPT g PT, bPL g PL]) [0, 1, 2, 5, 3, 4] rfl rfl hP hD
      refine lv_iload_n hx hb dX11_buy_13 rfl (lv_at hl 2 rfl) ?_
      refine lv_aload_n hx hb dX11_buy_14 rfl (lv_at hl 0 rfl) ?_
      refine va_get (D := g.1) (ci := 9) (v := .ref o) (C := RX11) (T := TX11) (N := 10) hx hb hts izRX11 hown hK hP 17 rfl rfl 1 (by decide) (hts _ k538) (fun _ h9 => h9) rfl dX11_buy_15 ?_
      refine mcallV' (g := g) (q0 := 0) (ci := 7) (As := []) (rest := [.int n]) St hK hT hA hP hD hS hl.1 [2] [0, 1, 3, 4, 5] rfl rfl rfl (c_sharePrice l g o a pe wo tx ch jo tr dy sd f b_pe b_wo rf) (cwV 0 hts (zgL (zl4 k649 k188 k189 k24) k186) rfl rfl rfl (by decide +kernel) ⟨Nat.le_of_ble_eq_true rfl, Nat.le_of_ble_eq_true rfl⟩) rfl rfl rfl rfl (Nat.le_of_ble_eq_true rfl) dX11_buy_18 ⟨(Nat.le_of_ble_eq_true rfl), (Nat.le_of_ble_eq_true rfl)⟩ (fun q_3 H locs hq4 hP hD hS => ?_)
      have hP : va_P g.1 vwCl (List.flatten [bLog g go gr gz gn fr, bMem g mo qT qL it il ig mh me mx fT fL, bDR g x ta o lo go tt lt mo fo ro fl9, bPT g PT, bPL g PL, bTown g o a pe wo tx ch jo tr dy sd f]) H := hP
      have hD : va_D A (List.flatten [bLog g go gr gz gn fr, bMem g mo qT qL it il ig mh me mx fT fL, bDR g x ta o lo go tt lt mo fo ro fl9, bPT g PT, bPL g PL, bTown g o a pe wo tx ch jo tr dy sd f]) := hD
      refine W.widen (k := 2) (n := 12) (Nat.le_of_ble_eq_true rfl) (Nat.le_of_ble_eq_true rfl) ?_
      refine W.eq (g2 := F0 m 21 ls [.int q_3, .int n]) rfl ?_
      have hP : va_P g.1 vwCl (List.flatten [bLog g go gr gz gn fr, bMem g mo qT qL it il ig mh me mx fT fL, bDR g x ta o lo go tt lt mo fo ro fl9, bPT g PT, bPL g PL, bTown g o a pe wo tx ch jo tr dy sd f]) H := hP
      have hD : va_D A (List.flatten [bLog g go gr gz gn fr, bMem g mo qT qL it il ig mh me mx fT fL, bDR g x ta o lo go tt lt mo fo ro fl9, bPT g PT, bPL g PL, bTown g o a pe wo tx ch jo tr dy sd f]) := hD
      obtain ⟨hP, hD⟩ := zord (g := g) (Bs' := [bLog g go gr gz gn fr, bMem g mo qT qL it il ig mh me mx fT fL, bDR g x ta o lo go tt lt mo fo ro fl9, bTown g o a pe wo tx ch jo tr dy sd f, bPT g PT, bPL g PL]) [0, 1, 2, 5, 3, 4] rfl rfl hP hD
      refine lv_imul hx hb dX11_buy_21 ?_
      refine zg (fun x_5 => ?_)
      refine lv_istore_n (lv' := [(3, .int x_5), (0, .ref x), (1, .int pp), (2, .int n)]) hx hb dX11_buy_22 rfl hl (by decide) rfl (fun ls hl => ?_)
      refine lv_aload_n hx hb dX11_buy_23 rfl (lv_at hl 1 rfl) ?_
      refine lv_aload_n hx hb dX11_buy_24 rfl (lv_at hl 1 rfl) ?_
      refine va_get (D := g.1) (ci := 9) (v := .ref o) (C := RX11) (T := TX11) (N := 10) hx hb hts izRX11 hown hK hP 5 rfl rfl 1 (by decide) (hts _ k538) (fun _ h9 => h9) rfl dX11_buy_25 ?_
      refine va_get (D := g.1) (ci := 7) (v := .ref (a 2)) (C := RX9) (T := TX9) (N := 19) hx hb hts izRX9 hown hK hP 6 rfl rfl 10 (by decide) (hts _ k615) (fun _ h9 => h9) rfl dX11_buy_28 ?_
      refine lv_iload_n hx hb dX11_buy_31 rfl (lv_at hl 2 rfl) ?_
      refine va_iald hx hb hK hP 9 0 rfl rfl (zinK (a := 0) (b := 7) hq1_0.1 hq1_0.2 (by decide)) dX11_buy_32 ?_
      refine zg (fun x_6 => ?_)
      refine lv_iload_n hx hb dX11_buy_33 rfl (lv_at hl 3 rfl) ?_
      refine lv_iadd hx hb dX11_buy_34 ?_
      refine zg (fun x_7 => ?_)
      refine lv_bipush (v := 99) hx hb dX11_buy_35 (by decide) ?_
      refine lv_icmp_gt (tgt := 57) hx hb dX11_buy_37 (by decide) (fun cb9 => ?_) (fun cb9 => ?_)
      · skip
        have c8 : 99 < x_7.toInt := zlti cb9 (by decide) rfl
        have n9 : 100 ≤ x_7.toInt := zL2 (a := 99) c8 (Int.le_refl _) (by decide)
        refine lv_iconst (v := 0) hx hb dX11_buy_57 (by decide) ?_
        refine xcallV' (g := g) (q0 := 0) (ci := 9) (As := [.int 0]) (rest := []) St hK hT hA hP hD hS hl.1 [2] [0, 1, 3, 4, 5] rfl rfl rfl (c_x_needState l hfl g x ta o lo go tt lt mo fo ro fl9 0 ) (cwV 1 hts (zgL (zl4 k656 k657 k658 k621) k651) rfl rfl rfl (by decide +kernel) ⟨Nat.le_of_ble_eq_true rfl, Nat.le_of_ble_eq_true rfl⟩) rfl rfl rfl rfl (Nat.le_of_ble_eq_true rfl) dX11_buy_58 ⟨(Nat.le_of_ble_eq_true rfl), (Nat.le_of_ble_eq_true rfl)⟩ (fun E ce q9 u9 H locs hpx hP hD hS hce hcv hcl => ?_) (fun _u H locs hq10 hP hD hS => ?_)
        · skip
          have hpx : (E = "java/lang/IllegalStateException") := hpx
          have hP : va_P g.1 vwCl (List.flatten [bLog g go gr gz gn fr, bMem g mo qT qL it il ig mh me mx fT fL, bTown g o a pe wo tx ch jo tr dy sd f, bPT g PT, bPL g PL, bDR g x ta o lo go tt lt mo fo ro fl9]) H := hP
          have hD : va_D A (List.flatten [bLog g go gr gz gn fr, bMem g mo qT qL it il ig mh me mx fT fL, bTown g o a pe wo tx ch jo tr dy sd f, bPT g PT, bPL g PL, bDR g x ta o lo go tt lt mo fo ro fl9]) := hD
          have hP : va_P g.1 vwCl (List.flatten [bLog g go gr gz gn fr, bMem g mo qT qL it il ig mh me mx fT fL, bTown g o a pe wo tx ch jo tr dy sd f, bPT g PT, bPL g PL, bDR g x ta o lo go tt lt mo fo ro fl9]) H := hP
          have hD : va_D A (List.flatten [bLog g go gr gz gn fr, bMem g mo qT qL it il ig mh me mx fT fL, bTown g o a pe wo tx ch jo tr dy sd f, bPT g PT, bPL g PL, bDR g x ta o lo go tt lt mo fo ro fl9]) := hD
          obtain ⟨hP, hD⟩ := zord (g := g) (Bs' := [bLog g go gr gz gn fr, bMem g mo qT qL it il ig mh me mx fT fL, bTown g o a pe wo tx ch jo tr dy sd f, bDR g x ta o lo go tt lt mo fo ro fl9, bPT g PT, bPL g PL]) [0, 1, 2, 5, 3, 4] rfl rfl hP hD
          have hP : va_P g.1 vwCl (List.flatten [bLog g go gr gz gn fr, bMem g mo qT qL it il ig mh me mx fT fL, bTown g o a pe wo tx ch jo tr dy sd f, bDR g x ta o lo go tt lt mo fo ro fl9, bPT g PT, bPL g PL]) H := hP
          have hD : va_D A (List.flatten [bLog g go gr gz gn fr, bMem g mo qT qL it il ig mh me mx fT fL, bTown g o a pe wo tx ch jo tr dy sd f, bDR g x ta o lo go tt lt mo fo ro fl9, bPT g PT, bPL g PL]) := hD
          obtain ⟨hP, hD⟩ := zord (g := g) (Bs' := [bDR g x ta o lo go tt lt mo fo ro fl9, bTown g o a pe wo tx ch jo tr dy sd f, bLog g go gr gz gn fr, bMem g mo qT qL it il ig mh me mx fT fL, bPT g PT, bPL g PL]) [3, 2, 0, 1, 4, 5] rfl rfl hP hD
          exact zout htab hlocks hS (Nat.le_of_ble_eq_true rfl) (Nat.le_of_ble_eq_true rfl) hce hcv hcl (f, ch, me, mx, PT, PL) (show (E = "java/lang/IndexOutOfBoundsException" ∨ E = "java/lang/IllegalArgumentException" ∨ E = "java/lang/IllegalStateException") ∧ (zZ4 f) ∧ (0 ≤ me.toInt ∧ me.toInt ≤ 12) ∧ (0 ≤ mx.toInt ∧ mx.toInt ≤ 11) ∧ (zPT fT PT) ∧ (zPL fL PL) from ⟨(Or.inr (Or.inr hpx)), (show zZ4 f from rf), (show 0 ≤ me.toInt ∧ me.toInt ≤ 12 from b_me), (show 0 ≤ mx.toInt ∧ mx.toInt ≤ 11 from b_mx), (show zPT fT PT from hPT), (show zPL fL PL from hPL)⟩) hP hD
        · skip
          have hP : va_P g.1 vwCl (List.flatten [bLog g go gr gz gn fr, bMem g mo qT qL it il ig mh me mx fT fL, bTown g o a pe wo tx ch jo tr dy sd f, bPT g PT, bPL g PL, bDR g x ta o lo go tt lt mo fo ro fl9]) H := hP
          have hD : va_D A (List.flatten [bLog g go gr gz gn fr, bMem g mo qT qL it il ig mh me mx fT fL, bTown g o a pe wo tx ch jo tr dy sd f, bPT g PT, bPL g PL, bDR g x ta o lo go tt lt mo fo ro fl9]) := hD
          refine W.widen (k := 3) (n := 18) (Nat.le_of_ble_eq_true rfl) (Nat.le_of_ble_eq_true rfl) ?_
          refine W.eq (g2 := F0 m 61 ls []) rfl ?_
          have hP : va_P g.1 vwCl (List.flatten [bLog g go gr gz gn fr, bMem g mo qT qL it il ig mh me mx fT fL, bTown g o a pe wo tx ch jo tr dy sd f, bPT g PT, bPL g PL, bDR g x ta o lo go tt lt mo fo ro fl9]) H := hP
          have hD : va_D A (List.flatten [bLog g go gr gz gn fr, bMem g mo qT qL it il ig mh me mx fT fL, bTown g o a pe wo tx ch jo tr dy sd f, bPT g PT, bPL g PL, bDR g x ta o lo go tt lt mo fo ro fl9]) := hD
          obtain ⟨hP, hD⟩ := zord (g := g) (Bs' := [bLog g go gr gz gn fr, bMem g mo qT qL it il ig mh me mx fT fL, bTown g o a pe wo tx ch jo tr dy sd f, bDR g x ta o lo go tt lt mo fo ro fl9, bPT g PT, bPL g PL]) [0, 1, 2, 5, 3, 4] rfl rfl hP hD
          refine lv_aload_n hx hb dX11_buy_61 rfl (lv_at hl 1 rfl) ?_
          refine va_get (D := g.1) (ci := 9) (v := .ref mo) (C := RX11) (T := TX11) (N := 10) hx hb hts izRX11 hown hK hP 17 rfl rfl 6 (by decide) (hts _ k551) (fun _ h9 => h9) rfl dX11_buy_62 ?_
          refine lv_aload_n hx hb dX11_buy_65 rfl (lv_at hl 1 rfl) ?_
          refine va_get (D := g.1) (ci := 9) (v := .ref o) (C := RX11) (T := TX11) (N := 10) hx hb hts izRX11 hown hK hP 17 rfl rfl 1 (by decide) (hts _ k538) (fun _ h9 => h9) rfl dX11_buy_66 ?_
          refine lv_aload_n hx hb dX11_buy_69 rfl (lv_at hl 1 rfl) ?_
          refine va_get (D := g.1) (ci := 9) (v := .ref go) (C := RX11) (T := TX11) (N := 10) hx hb hts izRX11 hown hK hP 17 rfl rfl 3 (by decide) (hts _ k542) (fun _ h9 => h9) rfl dX11_buy_70 ?_
          refine mcallV' (g := g) (q0 := 0) (ci := 4) (As := [.ref o, .ref go]) (rest := []) St hK hT hA hP hD hS hl.1 [1, 2, 0, 4, 5] [3] rfl rfl rfl (c_m_remember l g mo qT qL it il ig mh me mx fT fL o a pe wo tx ch jo tr dy sd f go gr gz gn fr PT PL b_me b_mx b_pe b_wo rf b_gz b_gn hPT hPL) (cwV 2 hts (zgL (zl4 k662 k663 k664 k378) k367) rfl rfl rfl (by decide +kernel) ⟨Nat.le_of_ble_eq_true rfl, Nat.le_of_ble_eq_true rfl⟩) rfl rfl rfl rfl (Nat.le_of_ble_eq_true rfl) dX11_buy_73 ⟨(Nat.le_of_ble_eq_true rfl), (Nat.le_of_ble_eq_true rfl)⟩ (fun u_ H locs hq15 hP hD hS => ?_)
          obtain ⟨me2_11, mx2_12, PT2_13, PL2_14⟩ := u_
          replace hq15 : (0 ≤ me2_11.toInt ∧ me2_11.toInt ≤ 12) ∧ (0 ≤ mx2_12.toInt ∧ mx2_12.toInt ≤ 11) ∧ (zPT fT PT2_13) ∧ (zPL fL PL2_14) := hq15
          have hP : va_P g.1 vwCl (List.flatten [bDR g x ta o lo go tt lt mo fo ro fl9, bMem g mo qT qL it il ig mh me2_11 mx2_12 fT fL, bTown g o a pe wo tx ch jo tr dy sd f, bLog g go gr gz gn fr, bPT g PT2_13, bPL g PL2_14]) H := hP
          have hD : va_D A (List.flatten [bDR g x ta o lo go tt lt mo fo ro fl9, bMem g mo qT qL it il ig mh me2_11 mx2_12 fT fL, bTown g o a pe wo tx ch jo tr dy sd f, bLog g go gr gz gn fr, bPT g PT2_13, bPL g PL2_14]) := hD
          refine W.widen (k := 3) (n := 18) (Nat.le_of_ble_eq_true rfl) (Nat.le_of_ble_eq_true rfl) ?_
          refine W.eq (g2 := F0 m 76 ls []) rfl ?_
          obtain ⟨hq15_0, hq15_1, hq15_2, hq15_3⟩ := hq15
          refine lv_aload_n hx hb dX11_buy_76 rfl (lv_at hl 1 rfl) ?_
          refine va_get (D := g.1) (ci := 9) (v := .ref o) (C := RX11) (T := TX11) (N := 10) hx hb hts izRX11 hown hK hP 0 rfl rfl 1 (by decide) (hts _ k538) (fun _ h9 => h9) rfl dX11_buy_77 ?_
          refine va_get (D := g.1) (ci := 7) (v := .ref (a 2)) (C := RX9) (T := TX9) (N := 19) hx hb hts izRX9 hown hK hP 4 rfl rfl 10 (by decide) (hts _ k615) (fun _ h9 => h9) rfl dX11_buy_80 ?_
          refine lv_iload_n hx hb dX11_buy_83 rfl (lv_at hl 2 rfl) ?_
          refine lv_dup2_11 hx hb dX11_buy_84 rfl rfl ?_
          refine va_iald hx hb hK hP 7 0 rfl rfl (zinK (a := 0) (b := 7) hq1_0.1 hq1_0.2 (by decide)) dX11_buy_85 ?_
          refine zg (fun x_16 => ?_)
          refine lv_iload_n hx hb dX11_buy_86 rfl (lv_at hl 3 rfl) ?_
          refine lv_iadd hx hb dX11_buy_87 ?_
          refine zg (fun x_17 => ?_)
          refine va_iast hx hb hK hP hD hS 7 0 rfl rfl (zinK (a := 0) (b := 7) hq1_0.1 hq1_0.2 (by decide)) dX11_buy_88 (fun H locs hP hD hS => ?_)
          obtain ⟨f18, rf18, hP, hD⟩ : ∃ f18 : Nat → Nat → Int32, zZ4 f18 ∧ va_P g.1 vwCl (List.flatten [bDR g x ta o lo go tt lt mo fo ro fl9, bMem g mo qT qL it il ig mh me2_11 mx2_12 fT fL, bTown g o a pe wo tx ch jo tr dy sd f18, bLog g go gr gz gn fr, bPT g PT2_13, bPL g PL2_14]) H ∧ va_D A (List.flatten [bDR g x ta o lo go tt lt mo fo ro fl9, bMem g mo qT qL it il ig mh me2_11 mx2_12 fT fL, bTown g o a pe wo tx ch jo tr dy sd f18, bLog g go gr gz gn fr, bPT g PT2_13, bPL g PL2_14]) := ⟨zu f 2 (upd (f 2) pp.toNatClampNeg x_17), (zZ4_u rf (by decide)), hP, hD⟩
          refine lv_aload_n hx hb dX11_buy_89 rfl (lv_at hl 1 rfl) ?_
          refine va_get (D := g.1) (ci := 9) (v := .ref o) (C := RX11) (T := TX11) (N := 10) hx hb hts izRX11 hown hK hP 0 rfl rfl 1 (by decide) (hts _ k538) (fun _ h9 => h9) rfl dX11_buy_90 ?_
          refine va_get (D := g.1) (ci := 7) (v := .ref (a 1)) (C := RX9) (T := TX9) (N := 19) hx hb hts izRX9 hown hK hP 4 rfl rfl 9 (by decide) (hts _ k614) (fun _ h9 => h9) rfl dX11_buy_93 ?_
          refine lv_iload_n hx hb dX11_buy_96 rfl (lv_at hl 2 rfl) ?_
          refine lv_dup2_11 hx hb dX11_buy_97 rfl rfl ?_
          refine va_iald hx hb hK hP 6 0 rfl rfl (zinK (a := 0) (b := 7) hq1_0.1 hq1_0.2 (by decide)) dX11_buy_98 ?_
          refine zg (fun x_19 => ?_)
          refine lv_iload_n hx hb dX11_buy_99 rfl (lv_at hl 0 rfl) ?_
          refine lv_isub hx hb dX11_buy_100 ?_
          refine zg (fun x_20 => ?_)
          refine va_iast hx hb hK hP hD hS 6 0 rfl rfl (zinK (a := 0) (b := 7) hq1_0.1 hq1_0.2 (by decide)) dX11_buy_101 (fun H locs hP hD hS => ?_)
          obtain ⟨f21, rf21, hP, hD⟩ : ∃ f21 : Nat → Nat → Int32, zZ4 f21 ∧ va_P g.1 vwCl (List.flatten [bDR g x ta o lo go tt lt mo fo ro fl9, bMem g mo qT qL it il ig mh me2_11 mx2_12 fT fL, bTown g o a pe wo tx ch jo tr dy sd f21, bLog g go gr gz gn fr, bPT g PT2_13, bPL g PL2_14]) H ∧ va_D A (List.flatten [bDR g x ta o lo go tt lt mo fo ro fl9, bMem g mo qT qL it il ig mh me2_11 mx2_12 fT fL, bTown g o a pe wo tx ch jo tr dy sd f21, bLog g go gr gz gn fr, bPT g PT2_13, bPL g PL2_14]) := ⟨zu f18 1 (upd (f18 1) pp.toNatClampNeg x_20), (zZ4_u rf18 (by decide)), hP, hD⟩
          refine lv_aload_n hx hb dX11_buy_102 rfl (lv_at hl 1 rfl) ?_
          refine va_get (D := g.1) (ci := 9) (v := .ref o) (C := RX11) (T := TX11) (N := 10) hx hb hts izRX11 hown hK hP 0 rfl rfl 1 (by decide) (hts _ k538) (fun _ h9 => h9) rfl dX11_buy_103 ?_
          refine lv_sipush (v := 9999) hx hb dX11_buy_106 (by decide) ?_
          refine lv_aload_n hx hb dX11_buy_109 rfl (lv_at hl 1 rfl) ?_
          refine va_get (D := g.1) (ci := 9) (v := .ref o) (C := RX11) (T := TX11) (N := 10) hx hb hts izRX11 hown hK hP 0 rfl rfl 1 (by decide) (hts _ k538) (fun _ h9 => h9) rfl dX11_buy_110 ?_
          refine va_get (D := g.1) (ci := 7) (v := .int ch) (C := RX9) (T := TX9) (N := 19) hx hb hts izRX9 hown hK hP 4 rfl rfl 3 (by decide) (hts _ k677) (fun _ h9 => h9) rfl dX11_buy_113 ?_
          refine lv_iload_n hx hb dX11_buy_116 rfl (lv_at hl 0 rfl) ?_
          refine lv_iadd hx hb dX11_buy_117 ?_
          refine zg (fun x_22 => ?_)
          refine va_mmin hx hb (by rw [hml]; exact hl.1.symm) hown (hts _ k678) (hts _ k41) (hts _ k42) (hts _ k43) (Nat.le_of_ble_eq_true rfl) (Nat.le_of_ble_eq_true rfl) (Nat.le_of_ble_eq_true rfl) (Nat.le_of_ble_eq_true rfl) dX11_buy_118 ?_
          refine zgmn (i := 9999) (j := x_22.toInt) (by decide) rfl (fun x_23 hx_23 => ?_)
          refine va_put (D := g.1) (ci := 7) (v := .int x_23) (ty := .int) (C := RX9) (T := TX9) (N := 19) hx hb hts izRX9 tyX9 tyX9_ok nmX9 hown hK hP hD hS 4 rfl rfl 3 (by decide) (hts _ k677) (fun _ h9 => h9) rfl (by decide +kernel) rfl rfl (Nat.le_of_ble_eq_true rfl) dX11_buy_121 (fun H locs hP hD hS => ?_)
          have hP : va_P g.1 vwCl (List.flatten [bDR g x ta o lo go tt lt mo fo ro fl9, bMem g mo qT qL it il ig mh me2_11 mx2_12 fT fL, bTown g o a pe wo tx x_23 jo tr dy sd f21, bLog g go gr gz gn fr, bPT g PT2_13, bPL g PL2_14]) H := hP
          have hD : va_D A (List.flatten [bDR g x ta o lo go tt lt mo fo ro fl9, bMem g mo qT qL it il ig mh me2_11 mx2_12 fT fL, bTown g o a pe wo tx x_23 jo tr dy sd f21, bLog g go gr gz gn fr, bPT g PT2_13, bPL g PL2_14]) := hD
          refine lv_aload_n hx hb dX11_buy_124 rfl (lv_at hl 1 rfl) ?_
          refine va_get (D := g.1) (ci := 9) (v := .ref o) (C := RX11) (T := TX11) (N := 10) hx hb hts izRX11 hown hK hP 0 rfl rfl 1 (by decide) (hts _ k538) (fun _ h9 => h9) rfl dX11_buy_125 ?_
          refine va_get (D := g.1) (ci := 7) (v := .ref (a 1)) (C := RX9) (T := TX9) (N := 19) hx hb hts izRX9 hown hK hP 4 rfl rfl 9 (by decide) (hts _ k614) (fun _ h9 => h9) rfl dX11_buy_128 ?_
          refine lv_iload_n hx hb dX11_buy_131 rfl (lv_at hl 2 rfl) ?_
          refine va_iald hx hb hK hP 6 0 rfl rfl (zinK (a := 0) (b := 7) hq1_0.1 hq1_0.2 (by decide)) dX11_buy_132 ?_
          refine zg (fun x_24 => ?_)
          have hP : va_P g.1 vwCl (List.flatten [bDR g x ta o lo go tt lt mo fo ro fl9, bMem g mo qT qL it il ig mh me2_11 mx2_12 fT fL, bTown g o a pe wo tx x_23 jo tr dy sd f21, bLog g go gr gz gn fr, bPT g PT2_13, bPL g PL2_14]) H := hP
          have hD : va_D A (List.flatten [bDR g x ta o lo go tt lt mo fo ro fl9, bMem g mo qT qL it il ig mh me2_11 mx2_12 fT fL, bTown g o a pe wo tx x_23 jo tr dy sd f21, bLog g go gr gz gn fr, bPT g PT2_13, bPL g PL2_14]) := hD
          obtain ⟨hP, hD⟩ := zord (g := g) (Bs' := [bDR g x ta o lo go tt lt mo fo ro fl9, bTown g o a pe wo tx x_23 jo tr dy sd f21, bLog g go gr gz gn fr, bMem g mo qT qL it il ig mh me2_11 mx2_12 fT fL, bPT g PT2_13, bPL g PL2_14]) [0, 2, 3, 1, 4, 5] rfl rfl hP hD
          exact zret_i hx hb hr hlocks hS (Nat.le_of_ble_eq_true rfl) (Nat.le_of_ble_eq_true rfl) dX11_buy_133 (f21, x_23, me2_11, mx2_12, PT2_13, PL2_14, x_24) rfl (show (zZ4 f21) ∧ (0 ≤ me2_11.toInt ∧ me2_11.toInt ≤ 12) ∧ (0 ≤ mx2_12.toInt ∧ mx2_12.toInt ≤ 11) ∧ (zPT fT PT2_13) ∧ (zPL fL PL2_14) from ⟨rf21, hq15_0, hq15_1, hq15_2, hq15_3⟩) hP hD
      · skip
        have c25 : x_7.toInt ≤ 99 := zle (Int32.not_lt.mp cb9) rfl (by decide)
        have n26 : x_7.toInt ≤ 99 := Int.le_trans c25 (Int.le_refl _)
        refine lv_aload_n hx hb dX11_buy_40 rfl (lv_at hl 1 rfl) ?_
        refine va_get (D := g.1) (ci := 9) (v := .ref o) (C := RX11) (T := TX11) (N := 10) hx hb hts izRX11 hown hK hP 5 rfl rfl 1 (by decide) (hts _ k538) (fun _ h9 => h9) rfl dX11_buy_41 ?_
        refine va_get (D := g.1) (ci := 7) (v := .ref (a 1)) (C := RX9) (T := TX9) (N := 19) hx hb hts izRX9 hown hK hP 6 rfl rfl 9 (by decide) (hts _ k614) (fun _ h9 => h9) rfl dX11_buy_44 ?_
        refine lv_iload_n hx hb dX11_buy_47 rfl (lv_at hl 2 rfl) ?_
        refine va_iald hx hb hK hP 8 0 rfl rfl (zinK (a := 0) (b := 7) hq1_0.1 hq1_0.2 (by decide)) dX11_buy_48 ?_
        refine zg (fun x_27 => ?_)
        refine lv_iload_n hx hb dX11_buy_49 rfl (lv_at hl 0 rfl) ?_
        refine lv_icmp_lt (tgt := 57) hx hb dX11_buy_50 (by decide) (fun cb9 => ?_) (fun cb9 => ?_)
        · skip
          have c28 : x_27.toInt < x_5.toInt := zlti cb9 rfl rfl
          refine lv_iconst (v := 0) hx hb dX11_buy_57 (by decide) ?_
          refine xcallV' (g := g) (q0 := 0) (ci := 9) (As := [.int 0]) (rest := []) St hK hT hA hP hD hS hl.1 [2] [0, 1, 3, 4, 5] rfl rfl rfl (c_x_needState l hfl g x ta o lo go tt lt mo fo ro fl9 0 ) (cwV 1 hts (zgL (zl4 k656 k657 k658 k621) k651) rfl rfl rfl (by decide +kernel) ⟨Nat.le_of_ble_eq_true rfl, Nat.le_of_ble_eq_true rfl⟩) rfl rfl rfl rfl (Nat.le_of_ble_eq_true rfl) dX11_buy_58 ⟨(Nat.le_of_ble_eq_true rfl), (Nat.le_of_ble_eq_true rfl)⟩ (fun E ce q9 u9 H locs hpx hP hD hS hce hcv hcl => ?_) (fun _u H locs hq29 hP hD hS => ?_)
          · skip
            have hpx : (E = "java/lang/IllegalStateException") := hpx
            have hP : va_P g.1 vwCl (List.flatten [bLog g go gr gz gn fr, bMem g mo qT qL it il ig mh me mx fT fL, bTown g o a pe wo tx ch jo tr dy sd f, bPT g PT, bPL g PL, bDR g x ta o lo go tt lt mo fo ro fl9]) H := hP
            have hD : va_D A (List.flatten [bLog g go gr gz gn fr, bMem g mo qT qL it il ig mh me mx fT fL, bTown g o a pe wo tx ch jo tr dy sd f, bPT g PT, bPL g PL, bDR g x ta o lo go tt lt mo fo ro fl9]) := hD
            have hP : va_P g.1 vwCl (List.flatten [bLog g go gr gz gn fr, bMem g mo qT qL it il ig mh me mx fT fL, bTown g o a pe wo tx ch jo tr dy sd f, bPT g PT, bPL g PL, bDR g x ta o lo go tt lt mo fo ro fl9]) H := hP
            have hD : va_D A (List.flatten [bLog g go gr gz gn fr, bMem g mo qT qL it il ig mh me mx fT fL, bTown g o a pe wo tx ch jo tr dy sd f, bPT g PT, bPL g PL, bDR g x ta o lo go tt lt mo fo ro fl9]) := hD
            obtain ⟨hP, hD⟩ := zord (g := g) (Bs' := [bLog g go gr gz gn fr, bMem g mo qT qL it il ig mh me mx fT fL, bTown g o a pe wo tx ch jo tr dy sd f, bDR g x ta o lo go tt lt mo fo ro fl9, bPT g PT, bPL g PL]) [0, 1, 2, 5, 3, 4] rfl rfl hP hD
            have hP : va_P g.1 vwCl (List.flatten [bLog g go gr gz gn fr, bMem g mo qT qL it il ig mh me mx fT fL, bTown g o a pe wo tx ch jo tr dy sd f, bDR g x ta o lo go tt lt mo fo ro fl9, bPT g PT, bPL g PL]) H := hP
            have hD : va_D A (List.flatten [bLog g go gr gz gn fr, bMem g mo qT qL it il ig mh me mx fT fL, bTown g o a pe wo tx ch jo tr dy sd f, bDR g x ta o lo go tt lt mo fo ro fl9, bPT g PT, bPL g PL]) := hD
            obtain ⟨hP, hD⟩ := zord (g := g) (Bs' := [bDR g x ta o lo go tt lt mo fo ro fl9, bTown g o a pe wo tx ch jo tr dy sd f, bLog g go gr gz gn fr, bMem g mo qT qL it il ig mh me mx fT fL, bPT g PT, bPL g PL]) [3, 2, 0, 1, 4, 5] rfl rfl hP hD
            exact zout htab hlocks hS (Nat.le_of_ble_eq_true rfl) (Nat.le_of_ble_eq_true rfl) hce hcv hcl (f, ch, me, mx, PT, PL) (show (E = "java/lang/IndexOutOfBoundsException" ∨ E = "java/lang/IllegalArgumentException" ∨ E = "java/lang/IllegalStateException") ∧ (zZ4 f) ∧ (0 ≤ me.toInt ∧ me.toInt ≤ 12) ∧ (0 ≤ mx.toInt ∧ mx.toInt ≤ 11) ∧ (zPT fT PT) ∧ (zPL fL PL) from ⟨(Or.inr (Or.inr hpx)), (show zZ4 f from rf), (show 0 ≤ me.toInt ∧ me.toInt ≤ 12 from b_me), (show 0 ≤ mx.toInt ∧ mx.toInt ≤ 11 from b_mx), (show zPT fT PT from hPT), (show zPL fL PL from hPL)⟩) hP hD
          · skip
            have hP : va_P g.1 vwCl (List.flatten [bLog g go gr gz gn fr, bMem g mo qT qL it il ig mh me mx fT fL, bTown g o a pe wo tx ch jo tr dy sd f, bPT g PT, bPL g PL, bDR g x ta o lo go tt lt mo fo ro fl9]) H := hP
            have hD : va_D A (List.flatten [bLog g go gr gz gn fr, bMem g mo qT qL it il ig mh me mx fT fL, bTown g o a pe wo tx ch jo tr dy sd f, bPT g PT, bPL g PL, bDR g x ta o lo go tt lt mo fo ro fl9]) := hD
            refine W.widen (k := 3) (n := 18) (Nat.le_of_ble_eq_true rfl) (Nat.le_of_ble_eq_true rfl) ?_
            refine W.eq (g2 := F0 m 61 ls []) rfl ?_
            have hP : va_P g.1 vwCl (List.flatten [bLog g go gr gz gn fr, bMem g mo qT qL it il ig mh me mx fT fL, bTown g o a pe wo tx ch jo tr dy sd f, bPT g PT, bPL g PL, bDR g x ta o lo go tt lt mo fo ro fl9]) H := hP
            have hD : va_D A (List.flatten [bLog g go gr gz gn fr, bMem g mo qT qL it il ig mh me mx fT fL, bTown g o a pe wo tx ch jo tr dy sd f, bPT g PT, bPL g PL, bDR g x ta o lo go tt lt mo fo ro fl9]) := hD
            obtain ⟨hP, hD⟩ := zord (g := g) (Bs' := [bLog g go gr gz gn fr, bMem g mo qT qL it il ig mh me mx fT fL, bTown g o a pe wo tx ch jo tr dy sd f, bDR g x ta o lo go tt lt mo fo ro fl9, bPT g PT, bPL g PL]) [0, 1, 2, 5, 3, 4] rfl rfl hP hD
            refine lv_aload_n hx hb dX11_buy_61 rfl (lv_at hl 1 rfl) ?_
            refine va_get (D := g.1) (ci := 9) (v := .ref mo) (C := RX11) (T := TX11) (N := 10) hx hb hts izRX11 hown hK hP 17 rfl rfl 6 (by decide) (hts _ k551) (fun _ h9 => h9) rfl dX11_buy_62 ?_
            refine lv_aload_n hx hb dX11_buy_65 rfl (lv_at hl 1 rfl) ?_
            refine va_get (D := g.1) (ci := 9) (v := .ref o) (C := RX11) (T := TX11) (N := 10) hx hb hts izRX11 hown hK hP 17 rfl rfl 1 (by decide) (hts _ k538) (fun _ h9 => h9) rfl dX11_buy_66 ?_
            refine lv_aload_n hx hb dX11_buy_69 rfl (lv_at hl 1 rfl) ?_
            refine va_get (D := g.1) (ci := 9) (v := .ref go) (C := RX11) (T := TX11) (N := 10) hx hb hts izRX11 hown hK hP 17 rfl rfl 3 (by decide) (hts _ k542) (fun _ h9 => h9) rfl dX11_buy_70 ?_
            refine mcallV' (g := g) (q0 := 0) (ci := 4) (As := [.ref o, .ref go]) (rest := []) St hK hT hA hP hD hS hl.1 [1, 2, 0, 4, 5] [3] rfl rfl rfl (c_m_remember l g mo qT qL it il ig mh me mx fT fL o a pe wo tx ch jo tr dy sd f go gr gz gn fr PT PL b_me b_mx b_pe b_wo rf b_gz b_gn hPT hPL) (cwV 2 hts (zgL (zl4 k662 k663 k664 k378) k367) rfl rfl rfl (by decide +kernel) ⟨Nat.le_of_ble_eq_true rfl, Nat.le_of_ble_eq_true rfl⟩) rfl rfl rfl rfl (Nat.le_of_ble_eq_true rfl) dX11_buy_73 ⟨(Nat.le_of_ble_eq_true rfl), (Nat.le_of_ble_eq_true rfl)⟩ (fun u_ H locs hq34 hP hD hS => ?_)
            obtain ⟨me2_30, mx2_31, PT2_32, PL2_33⟩ := u_
            replace hq34 : (0 ≤ me2_30.toInt ∧ me2_30.toInt ≤ 12) ∧ (0 ≤ mx2_31.toInt ∧ mx2_31.toInt ≤ 11) ∧ (zPT fT PT2_32) ∧ (zPL fL PL2_33) := hq34
            have hP : va_P g.1 vwCl (List.flatten [bDR g x ta o lo go tt lt mo fo ro fl9, bMem g mo qT qL it il ig mh me2_30 mx2_31 fT fL, bTown g o a pe wo tx ch jo tr dy sd f, bLog g go gr gz gn fr, bPT g PT2_32, bPL g PL2_33]) H := hP
            have hD : va_D A (List.flatten [bDR g x ta o lo go tt lt mo fo ro fl9, bMem g mo qT qL it il ig mh me2_30 mx2_31 fT fL, bTown g o a pe wo tx ch jo tr dy sd f, bLog g go gr gz gn fr, bPT g PT2_32, bPL g PL2_33]) := hD
            refine W.widen (k := 3) (n := 18) (Nat.le_of_ble_eq_true rfl) (Nat.le_of_ble_eq_true rfl) ?_
            refine W.eq (g2 := F0 m 76 ls []) rfl ?_
            obtain ⟨hq34_0, hq34_1, hq34_2, hq34_3⟩ := hq34
            refine lv_aload_n hx hb dX11_buy_76 rfl (lv_at hl 1 rfl) ?_
            refine va_get (D := g.1) (ci := 9) (v := .ref o) (C := RX11) (T := TX11) (N := 10) hx hb hts izRX11 hown hK hP 0 rfl rfl 1 (by decide) (hts _ k538) (fun _ h9 => h9) rfl dX11_buy_77 ?_
            refine va_get (D := g.1) (ci := 7) (v := .ref (a 2)) (C := RX9) (T := TX9) (N := 19) hx hb hts izRX9 hown hK hP 4 rfl rfl 10 (by decide) (hts _ k615) (fun _ h9 => h9) rfl dX11_buy_80 ?_
            refine lv_iload_n hx hb dX11_buy_83 rfl (lv_at hl 2 rfl) ?_
            refine lv_dup2_11 hx hb dX11_buy_84 rfl rfl ?_
            refine va_iald hx hb hK hP 7 0 rfl rfl (zinK (a := 0) (b := 7) hq1_0.1 hq1_0.2 (by decide)) dX11_buy_85 ?_
            refine zg (fun x_35 => ?_)
            refine lv_iload_n hx hb dX11_buy_86 rfl (lv_at hl 3 rfl) ?_
            refine lv_iadd hx hb dX11_buy_87 ?_
            refine zg (fun x_36 => ?_)
            refine va_iast hx hb hK hP hD hS 7 0 rfl rfl (zinK (a := 0) (b := 7) hq1_0.1 hq1_0.2 (by decide)) dX11_buy_88 (fun H locs hP hD hS => ?_)
            obtain ⟨f37, rf37, hP, hD⟩ : ∃ f37 : Nat → Nat → Int32, zZ4 f37 ∧ va_P g.1 vwCl (List.flatten [bDR g x ta o lo go tt lt mo fo ro fl9, bMem g mo qT qL it il ig mh me2_30 mx2_31 fT fL, bTown g o a pe wo tx ch jo tr dy sd f37, bLog g go gr gz gn fr, bPT g PT2_32, bPL g PL2_33]) H ∧ va_D A (List.flatten [bDR g x ta o lo go tt lt mo fo ro fl9, bMem g mo qT qL it il ig mh me2_30 mx2_31 fT fL, bTown g o a pe wo tx ch jo tr dy sd f37, bLog g go gr gz gn fr, bPT g PT2_32, bPL g PL2_33]) := ⟨zu f 2 (upd (f 2) pp.toNatClampNeg x_36), (zZ4_u rf (by decide)), hP, hD⟩
            refine lv_aload_n hx hb dX11_buy_89 rfl (lv_at hl 1 rfl) ?_
            refine va_get (D := g.1) (ci := 9) (v := .ref o) (C := RX11) (T := TX11) (N := 10) hx hb hts izRX11 hown hK hP 0 rfl rfl 1 (by decide) (hts _ k538) (fun _ h9 => h9) rfl dX11_buy_90 ?_
            refine va_get (D := g.1) (ci := 7) (v := .ref (a 1)) (C := RX9) (T := TX9) (N := 19) hx hb hts izRX9 hown hK hP 4 rfl rfl 9 (by decide) (hts _ k614) (fun _ h9 => h9) rfl dX11_buy_93 ?_
            refine lv_iload_n hx hb dX11_buy_96 rfl (lv_at hl 2 rfl) ?_
            refine lv_dup2_11 hx hb dX11_buy_97 rfl rfl ?_
            refine va_iald hx hb hK hP 6 0 rfl rfl (zinK (a := 0) (b := 7) hq1_0.1 hq1_0.2 (by decide)) dX11_buy_98 ?_
            refine zg (fun x_38 => ?_)
            refine lv_iload_n hx hb dX11_buy_99 rfl (lv_at hl 0 rfl) ?_
            refine lv_isub hx hb dX11_buy_100 ?_
            refine zg (fun x_39 => ?_)
            refine va_iast hx hb hK hP hD hS 6 0 rfl rfl (zinK (a := 0) (b := 7) hq1_0.1 hq1_0.2 (by decide)) dX11_buy_101 (fun H locs hP hD hS => ?_)
            obtain ⟨f40, rf40, hP, hD⟩ : ∃ f40 : Nat → Nat → Int32, zZ4 f40 ∧ va_P g.1 vwCl (List.flatten [bDR g x ta o lo go tt lt mo fo ro fl9, bMem g mo qT qL it il ig mh me2_30 mx2_31 fT fL, bTown g o a pe wo tx ch jo tr dy sd f40, bLog g go gr gz gn fr, bPT g PT2_32, bPL g PL2_33]) H ∧ va_D A (List.flatten [bDR g x ta o lo go tt lt mo fo ro fl9, bMem g mo qT qL it il ig mh me2_30 mx2_31 fT fL, bTown g o a pe wo tx ch jo tr dy sd f40, bLog g go gr gz gn fr, bPT g PT2_32, bPL g PL2_33]) := ⟨zu f37 1 (upd (f37 1) pp.toNatClampNeg x_39), (zZ4_u rf37 (by decide)), hP, hD⟩
            refine lv_aload_n hx hb dX11_buy_102 rfl (lv_at hl 1 rfl) ?_
            refine va_get (D := g.1) (ci := 9) (v := .ref o) (C := RX11) (T := TX11) (N := 10) hx hb hts izRX11 hown hK hP 0 rfl rfl 1 (by decide) (hts _ k538) (fun _ h9 => h9) rfl dX11_buy_103 ?_
            refine lv_sipush (v := 9999) hx hb dX11_buy_106 (by decide) ?_
            refine lv_aload_n hx hb dX11_buy_109 rfl (lv_at hl 1 rfl) ?_
            refine va_get (D := g.1) (ci := 9) (v := .ref o) (C := RX11) (T := TX11) (N := 10) hx hb hts izRX11 hown hK hP 0 rfl rfl 1 (by decide) (hts _ k538) (fun _ h9 => h9) rfl dX11_buy_110 ?_
            refine va_get (D := g.1) (ci := 7) (v := .int ch) (C := RX9) (T := TX9) (N := 19) hx hb hts izRX9 hown hK hP 4 rfl rfl 3 (by decide) (hts _ k677) (fun _ h9 => h9) rfl dX11_buy_113 ?_
            refine lv_iload_n hx hb dX11_buy_116 rfl (lv_at hl 0 rfl) ?_
            refine lv_iadd hx hb dX11_buy_117 ?_
            refine zg (fun x_41 => ?_)
            refine va_mmin hx hb (by rw [hml]; exact hl.1.symm) hown (hts _ k678) (hts _ k41) (hts _ k42) (hts _ k43) (Nat.le_of_ble_eq_true rfl) (Nat.le_of_ble_eq_true rfl) (Nat.le_of_ble_eq_true rfl) (Nat.le_of_ble_eq_true rfl) dX11_buy_118 ?_
            refine zgmn (i := 9999) (j := x_41.toInt) (by decide) rfl (fun x_42 hx_42 => ?_)
            refine va_put (D := g.1) (ci := 7) (v := .int x_42) (ty := .int) (C := RX9) (T := TX9) (N := 19) hx hb hts izRX9 tyX9 tyX9_ok nmX9 hown hK hP hD hS 4 rfl rfl 3 (by decide) (hts _ k677) (fun _ h9 => h9) rfl (by decide +kernel) rfl rfl (Nat.le_of_ble_eq_true rfl) dX11_buy_121 (fun H locs hP hD hS => ?_)
            have hP : va_P g.1 vwCl (List.flatten [bDR g x ta o lo go tt lt mo fo ro fl9, bMem g mo qT qL it il ig mh me2_30 mx2_31 fT fL, bTown g o a pe wo tx x_42 jo tr dy sd f40, bLog g go gr gz gn fr, bPT g PT2_32, bPL g PL2_33]) H := hP
            have hD : va_D A (List.flatten [bDR g x ta o lo go tt lt mo fo ro fl9, bMem g mo qT qL it il ig mh me2_30 mx2_31 fT fL, bTown g o a pe wo tx x_42 jo tr dy sd f40, bLog g go gr gz gn fr, bPT g PT2_32, bPL g PL2_33]) := hD
            refine lv_aload_n hx hb dX11_buy_124 rfl (lv_at hl 1 rfl) ?_
            refine va_get (D := g.1) (ci := 9) (v := .ref o) (C := RX11) (T := TX11) (N := 10) hx hb hts izRX11 hown hK hP 0 rfl rfl 1 (by decide) (hts _ k538) (fun _ h9 => h9) rfl dX11_buy_125 ?_
            refine va_get (D := g.1) (ci := 7) (v := .ref (a 1)) (C := RX9) (T := TX9) (N := 19) hx hb hts izRX9 hown hK hP 4 rfl rfl 9 (by decide) (hts _ k614) (fun _ h9 => h9) rfl dX11_buy_128 ?_
            refine lv_iload_n hx hb dX11_buy_131 rfl (lv_at hl 2 rfl) ?_
            refine va_iald hx hb hK hP 6 0 rfl rfl (zinK (a := 0) (b := 7) hq1_0.1 hq1_0.2 (by decide)) dX11_buy_132 ?_
            refine zg (fun x_43 => ?_)
            have hP : va_P g.1 vwCl (List.flatten [bDR g x ta o lo go tt lt mo fo ro fl9, bMem g mo qT qL it il ig mh me2_30 mx2_31 fT fL, bTown g o a pe wo tx x_42 jo tr dy sd f40, bLog g go gr gz gn fr, bPT g PT2_32, bPL g PL2_33]) H := hP
            have hD : va_D A (List.flatten [bDR g x ta o lo go tt lt mo fo ro fl9, bMem g mo qT qL it il ig mh me2_30 mx2_31 fT fL, bTown g o a pe wo tx x_42 jo tr dy sd f40, bLog g go gr gz gn fr, bPT g PT2_32, bPL g PL2_33]) := hD
            obtain ⟨hP, hD⟩ := zord (g := g) (Bs' := [bDR g x ta o lo go tt lt mo fo ro fl9, bTown g o a pe wo tx x_42 jo tr dy sd f40, bLog g go gr gz gn fr, bMem g mo qT qL it il ig mh me2_30 mx2_31 fT fL, bPT g PT2_32, bPL g PL2_33]) [0, 2, 3, 1, 4, 5] rfl rfl hP hD
            exact zret_i hx hb hr hlocks hS (Nat.le_of_ble_eq_true rfl) (Nat.le_of_ble_eq_true rfl) dX11_buy_133 (f40, x_42, me2_30, mx2_31, PT2_32, PL2_33, x_43) rfl (show (zZ4 f40) ∧ (0 ≤ me2_30.toInt ∧ me2_30.toInt ≤ 12) ∧ (0 ≤ mx2_31.toInt ∧ mx2_31.toInt ≤ 11) ∧ (zPT fT PT2_32) ∧ (zPL fL PL2_33) from ⟨rf40, hq34_0, hq34_1, hq34_2, hq34_3⟩) hP hD
        · skip
          have c44 : x_5.toInt ≤ x_27.toInt := zle (Int32.not_lt.mp cb9) rfl rfl
          refine lv_iconst (v := 1) hx hb dX11_buy_53 (by decide) ?_
          refine lv_goto (tgt := 58) hx hb dX11_buy_54 (by decide) ?_
          refine xcallV' (g := g) (q0 := 0) (ci := 9) (As := [.int 1]) (rest := []) St hK hT hA hP hD hS hl.1 [2] [0, 1, 3, 4, 5] rfl rfl rfl (c_x_needState l hfl g x ta o lo go tt lt mo fo ro fl9 1 ) (cwV 1 hts (zgL (zl4 k656 k657 k658 k621) k651) rfl rfl rfl (by decide +kernel) ⟨Nat.le_of_ble_eq_true rfl, Nat.le_of_ble_eq_true rfl⟩) rfl rfl rfl rfl (Nat.le_of_ble_eq_true rfl) dX11_buy_58 ⟨(Nat.le_of_ble_eq_true rfl), (Nat.le_of_ble_eq_true rfl)⟩ (fun E ce q9 u9 H locs hpx hP hD hS hce hcv hcl => ?_) (fun _u H locs hq45 hP hD hS => ?_)
          · skip
            have hpx : (E = "java/lang/IllegalStateException") := hpx
            have hP : va_P g.1 vwCl (List.flatten [bLog g go gr gz gn fr, bMem g mo qT qL it il ig mh me mx fT fL, bTown g o a pe wo tx ch jo tr dy sd f, bPT g PT, bPL g PL, bDR g x ta o lo go tt lt mo fo ro fl9]) H := hP
            have hD : va_D A (List.flatten [bLog g go gr gz gn fr, bMem g mo qT qL it il ig mh me mx fT fL, bTown g o a pe wo tx ch jo tr dy sd f, bPT g PT, bPL g PL, bDR g x ta o lo go tt lt mo fo ro fl9]) := hD
            have hP : va_P g.1 vwCl (List.flatten [bLog g go gr gz gn fr, bMem g mo qT qL it il ig mh me mx fT fL, bTown g o a pe wo tx ch jo tr dy sd f, bPT g PT, bPL g PL, bDR g x ta o lo go tt lt mo fo ro fl9]) H := hP
            have hD : va_D A (List.flatten [bLog g go gr gz gn fr, bMem g mo qT qL it il ig mh me mx fT fL, bTown g o a pe wo tx ch jo tr dy sd f, bPT g PT, bPL g PL, bDR g x ta o lo go tt lt mo fo ro fl9]) := hD
            obtain ⟨hP, hD⟩ := zord (g := g) (Bs' := [bLog g go gr gz gn fr, bMem g mo qT qL it il ig mh me mx fT fL, bTown g o a pe wo tx ch jo tr dy sd f, bDR g x ta o lo go tt lt mo fo ro fl9, bPT g PT, bPL g PL]) [0, 1, 2, 5, 3, 4] rfl rfl hP hD
            have hP : va_P g.1 vwCl (List.flatten [bLog g go gr gz gn fr, bMem g mo qT qL it il ig mh me mx fT fL, bTown g o a pe wo tx ch jo tr dy sd f, bDR g x ta o lo go tt lt mo fo ro fl9, bPT g PT, bPL g PL]) H := hP
            have hD : va_D A (List.flatten [bLog g go gr gz gn fr, bMem g mo qT qL it il ig mh me mx fT fL, bTown g o a pe wo tx ch jo tr dy sd f, bDR g x ta o lo go tt lt mo fo ro fl9, bPT g PT, bPL g PL]) := hD
            obtain ⟨hP, hD⟩ := zord (g := g) (Bs' := [bDR g x ta o lo go tt lt mo fo ro fl9, bTown g o a pe wo tx ch jo tr dy sd f, bLog g go gr gz gn fr, bMem g mo qT qL it il ig mh me mx fT fL, bPT g PT, bPL g PL]) [3, 2, 0, 1, 4, 5] rfl rfl hP hD
            exact zout htab hlocks hS (Nat.le_of_ble_eq_true rfl) (Nat.le_of_ble_eq_true rfl) hce hcv hcl (f, ch, me, mx, PT, PL) (show (E = "java/lang/IndexOutOfBoundsException" ∨ E = "java/lang/IllegalArgumentException" ∨ E = "java/lang/IllegalStateException") ∧ (zZ4 f) ∧ (0 ≤ me.toInt ∧ me.toInt ≤ 12) ∧ (0 ≤ mx.toInt ∧ mx.toInt ≤ 11) ∧ (zPT fT PT) ∧ (zPL fL PL) from ⟨(Or.inr (Or.inr hpx)), (show zZ4 f from rf), (show 0 ≤ me.toInt ∧ me.toInt ≤ 12 from b_me), (show 0 ≤ mx.toInt ∧ mx.toInt ≤ 11 from b_mx), (show zPT fT PT from hPT), (show zPL fL PL from hPL)⟩) hP hD
          · skip
            have hP : va_P g.1 vwCl (List.flatten [bLog g go gr gz gn fr, bMem g mo qT qL it il ig mh me mx fT fL, bTown g o a pe wo tx ch jo tr dy sd f, bPT g PT, bPL g PL, bDR g x ta o lo go tt lt mo fo ro fl9]) H := hP
            have hD : va_D A (List.flatten [bLog g go gr gz gn fr, bMem g mo qT qL it il ig mh me mx fT fL, bTown g o a pe wo tx ch jo tr dy sd f, bPT g PT, bPL g PL, bDR g x ta o lo go tt lt mo fo ro fl9]) := hD
            refine W.widen (k := 3) (n := 18) (Nat.le_of_ble_eq_true rfl) (Nat.le_of_ble_eq_true rfl) ?_
            refine W.eq (g2 := F0 m 61 ls []) rfl ?_
            have hP : va_P g.1 vwCl (List.flatten [bLog g go gr gz gn fr, bMem g mo qT qL it il ig mh me mx fT fL, bTown g o a pe wo tx ch jo tr dy sd f, bPT g PT, bPL g PL, bDR g x ta o lo go tt lt mo fo ro fl9]) H := hP
            have hD : va_D A (List.flatten [bLog g go gr gz gn fr, bMem g mo qT qL it il ig mh me mx fT fL, bTown g o a pe wo tx ch jo tr dy sd f, bPT g PT, bPL g PL, bDR g x ta o lo go tt lt mo fo ro fl9]) := hD
            obtain ⟨hP, hD⟩ := zord (g := g) (Bs' := [bLog g go gr gz gn fr, bMem g mo qT qL it il ig mh me mx fT fL, bTown g o a pe wo tx ch jo tr dy sd f, bDR g x ta o lo go tt lt mo fo ro fl9, bPT g PT, bPL g PL]) [0, 1, 2, 5, 3, 4] rfl rfl hP hD
            refine lv_aload_n hx hb dX11_buy_61 rfl (lv_at hl 1 rfl) ?_
            refine va_get (D := g.1) (ci := 9) (v := .ref mo) (C := RX11) (T := TX11) (N := 10) hx hb hts izRX11 hown hK hP 17 rfl rfl 6 (by decide) (hts _ k551) (fun _ h9 => h9) rfl dX11_buy_62 ?_
            refine lv_aload_n hx hb dX11_buy_65 rfl (lv_at hl 1 rfl) ?_
            refine va_get (D := g.1) (ci := 9) (v := .ref o) (C := RX11) (T := TX11) (N := 10) hx hb hts izRX11 hown hK hP 17 rfl rfl 1 (by decide) (hts _ k538) (fun _ h9 => h9) rfl dX11_buy_66 ?_
            refine lv_aload_n hx hb dX11_buy_69 rfl (lv_at hl 1 rfl) ?_
            refine va_get (D := g.1) (ci := 9) (v := .ref go) (C := RX11) (T := TX11) (N := 10) hx hb hts izRX11 hown hK hP 17 rfl rfl 3 (by decide) (hts _ k542) (fun _ h9 => h9) rfl dX11_buy_70 ?_
            refine mcallV' (g := g) (q0 := 0) (ci := 4) (As := [.ref o, .ref go]) (rest := []) St hK hT hA hP hD hS hl.1 [1, 2, 0, 4, 5] [3] rfl rfl rfl (c_m_remember l g mo qT qL it il ig mh me mx fT fL o a pe wo tx ch jo tr dy sd f go gr gz gn fr PT PL b_me b_mx b_pe b_wo rf b_gz b_gn hPT hPL) (cwV 2 hts (zgL (zl4 k662 k663 k664 k378) k367) rfl rfl rfl (by decide +kernel) ⟨Nat.le_of_ble_eq_true rfl, Nat.le_of_ble_eq_true rfl⟩) rfl rfl rfl rfl (Nat.le_of_ble_eq_true rfl) dX11_buy_73 ⟨(Nat.le_of_ble_eq_true rfl), (Nat.le_of_ble_eq_true rfl)⟩ (fun u_ H locs hq50 hP hD hS => ?_)
            obtain ⟨me2_46, mx2_47, PT2_48, PL2_49⟩ := u_
            replace hq50 : (0 ≤ me2_46.toInt ∧ me2_46.toInt ≤ 12) ∧ (0 ≤ mx2_47.toInt ∧ mx2_47.toInt ≤ 11) ∧ (zPT fT PT2_48) ∧ (zPL fL PL2_49) := hq50
            have hP : va_P g.1 vwCl (List.flatten [bDR g x ta o lo go tt lt mo fo ro fl9, bMem g mo qT qL it il ig mh me2_46 mx2_47 fT fL, bTown g o a pe wo tx ch jo tr dy sd f, bLog g go gr gz gn fr, bPT g PT2_48, bPL g PL2_49]) H := hP
            have hD : va_D A (List.flatten [bDR g x ta o lo go tt lt mo fo ro fl9, bMem g mo qT qL it il ig mh me2_46 mx2_47 fT fL, bTown g o a pe wo tx ch jo tr dy sd f, bLog g go gr gz gn fr, bPT g PT2_48, bPL g PL2_49]) := hD
            refine W.widen (k := 3) (n := 18) (Nat.le_of_ble_eq_true rfl) (Nat.le_of_ble_eq_true rfl) ?_
            refine W.eq (g2 := F0 m 76 ls []) rfl ?_
            obtain ⟨hq50_0, hq50_1, hq50_2, hq50_3⟩ := hq50
            refine lv_aload_n hx hb dX11_buy_76 rfl (lv_at hl 1 rfl) ?_
            refine va_get (D := g.1) (ci := 9) (v := .ref o) (C := RX11) (T := TX11) (N := 10) hx hb hts izRX11 hown hK hP 0 rfl rfl 1 (by decide) (hts _ k538) (fun _ h9 => h9) rfl dX11_buy_77 ?_
            refine va_get (D := g.1) (ci := 7) (v := .ref (a 2)) (C := RX9) (T := TX9) (N := 19) hx hb hts izRX9 hown hK hP 4 rfl rfl 10 (by decide) (hts _ k615) (fun _ h9 => h9) rfl dX11_buy_80 ?_
            refine lv_iload_n hx hb dX11_buy_83 rfl (lv_at hl 2 rfl) ?_
            refine lv_dup2_11 hx hb dX11_buy_84 rfl rfl ?_
            refine va_iald hx hb hK hP 7 0 rfl rfl (zinK (a := 0) (b := 7) hq1_0.1 hq1_0.2 (by decide)) dX11_buy_85 ?_
            refine zg (fun x_51 => ?_)
            refine lv_iload_n hx hb dX11_buy_86 rfl (lv_at hl 3 rfl) ?_
            refine lv_iadd hx hb dX11_buy_87 ?_
            refine zg (fun x_52 => ?_)
            refine va_iast hx hb hK hP hD hS 7 0 rfl rfl (zinK (a := 0) (b := 7) hq1_0.1 hq1_0.2 (by decide)) dX11_buy_88 (fun H locs hP hD hS => ?_)
            obtain ⟨f53, rf53, hP, hD⟩ : ∃ f53 : Nat → Nat → Int32, zZ4 f53 ∧ va_P g.1 vwCl (List.flatten [bDR g x ta o lo go tt lt mo fo ro fl9, bMem g mo qT qL it il ig mh me2_46 mx2_47 fT fL, bTown g o a pe wo tx ch jo tr dy sd f53, bLog g go gr gz gn fr, bPT g PT2_48, bPL g PL2_49]) H ∧ va_D A (List.flatten [bDR g x ta o lo go tt lt mo fo ro fl9, bMem g mo qT qL it il ig mh me2_46 mx2_47 fT fL, bTown g o a pe wo tx ch jo tr dy sd f53, bLog g go gr gz gn fr, bPT g PT2_48, bPL g PL2_49]) := ⟨zu f 2 (upd (f 2) pp.toNatClampNeg x_52), (zZ4_u rf (by decide)), hP, hD⟩
            refine lv_aload_n hx hb dX11_buy_89 rfl (lv_at hl 1 rfl) ?_
            refine va_get (D := g.1) (ci := 9) (v := .ref o) (C := RX11) (T := TX11) (N := 10) hx hb hts izRX11 hown hK hP 0 rfl rfl 1 (by decide) (hts _ k538) (fun _ h9 => h9) rfl dX11_buy_90 ?_
            refine va_get (D := g.1) (ci := 7) (v := .ref (a 1)) (C := RX9) (T := TX9) (N := 19) hx hb hts izRX9 hown hK hP 4 rfl rfl 9 (by decide) (hts _ k614) (fun _ h9 => h9) rfl dX11_buy_93 ?_
            refine lv_iload_n hx hb dX11_buy_96 rfl (lv_at hl 2 rfl) ?_
            refine lv_dup2_11 hx hb dX11_buy_97 rfl rfl ?_
            refine va_iald hx hb hK hP 6 0 rfl rfl (zinK (a := 0) (b := 7) hq1_0.1 hq1_0.2 (by decide)) dX11_buy_98 ?_
            refine zg (fun x_54 => ?_)
            refine lv_iload_n hx hb dX11_buy_99 rfl (lv_at hl 0 rfl) ?_
            refine lv_isub hx hb dX11_buy_100 ?_
            refine zg (fun x_55 => ?_)
            refine va_iast hx hb hK hP hD hS 6 0 rfl rfl (zinK (a := 0) (b := 7) hq1_0.1 hq1_0.2 (by decide)) dX11_buy_101 (fun H locs hP hD hS => ?_)
            obtain ⟨f56, rf56, hP, hD⟩ : ∃ f56 : Nat → Nat → Int32, zZ4 f56 ∧ va_P g.1 vwCl (List.flatten [bDR g x ta o lo go tt lt mo fo ro fl9, bMem g mo qT qL it il ig mh me2_46 mx2_47 fT fL, bTown g o a pe wo tx ch jo tr dy sd f56, bLog g go gr gz gn fr, bPT g PT2_48, bPL g PL2_49]) H ∧ va_D A (List.flatten [bDR g x ta o lo go tt lt mo fo ro fl9, bMem g mo qT qL it il ig mh me2_46 mx2_47 fT fL, bTown g o a pe wo tx ch jo tr dy sd f56, bLog g go gr gz gn fr, bPT g PT2_48, bPL g PL2_49]) := ⟨zu f53 1 (upd (f53 1) pp.toNatClampNeg x_55), (zZ4_u rf53 (by decide)), hP, hD⟩
            refine lv_aload_n hx hb dX11_buy_102 rfl (lv_at hl 1 rfl) ?_
            refine va_get (D := g.1) (ci := 9) (v := .ref o) (C := RX11) (T := TX11) (N := 10) hx hb hts izRX11 hown hK hP 0 rfl rfl 1 (by decide) (hts _ k538) (fun _ h9 => h9) rfl dX11_buy_103 ?_
            refine lv_sipush (v := 9999) hx hb dX11_buy_106 (by decide) ?_
            refine lv_aload_n hx hb dX11_buy_109 rfl (lv_at hl 1 rfl) ?_
            refine va_get (D := g.1) (ci := 9) (v := .ref o) (C := RX11) (T := TX11) (N := 10) hx hb hts izRX11 hown hK hP 0 rfl rfl 1 (by decide) (hts _ k538) (fun _ h9 => h9) rfl dX11_buy_110 ?_
            refine va_get (D := g.1) (ci := 7) (v := .int ch) (C := RX9) (T := TX9) (N := 19) hx hb hts izRX9 hown hK hP 4 rfl rfl 3 (by decide) (hts _ k677) (fun _ h9 => h9) rfl dX11_buy_113 ?_
            refine lv_iload_n hx hb dX11_buy_116 rfl (lv_at hl 0 rfl) ?_
            refine lv_iadd hx hb dX11_buy_117 ?_
            refine zg (fun x_57 => ?_)
            refine va_mmin hx hb (by rw [hml]; exact hl.1.symm) hown (hts _ k678) (hts _ k41) (hts _ k42) (hts _ k43) (Nat.le_of_ble_eq_true rfl) (Nat.le_of_ble_eq_true rfl) (Nat.le_of_ble_eq_true rfl) (Nat.le_of_ble_eq_true rfl) dX11_buy_118 ?_
            refine zgmn (i := 9999) (j := x_57.toInt) (by decide) rfl (fun x_58 hx_58 => ?_)
            refine va_put (D := g.1) (ci := 7) (v := .int x_58) (ty := .int) (C := RX9) (T := TX9) (N := 19) hx hb hts izRX9 tyX9 tyX9_ok nmX9 hown hK hP hD hS 4 rfl rfl 3 (by decide) (hts _ k677) (fun _ h9 => h9) rfl (by decide +kernel) rfl rfl (Nat.le_of_ble_eq_true rfl) dX11_buy_121 (fun H locs hP hD hS => ?_)
            have hP : va_P g.1 vwCl (List.flatten [bDR g x ta o lo go tt lt mo fo ro fl9, bMem g mo qT qL it il ig mh me2_46 mx2_47 fT fL, bTown g o a pe wo tx x_58 jo tr dy sd f56, bLog g go gr gz gn fr, bPT g PT2_48, bPL g PL2_49]) H := hP
            have hD : va_D A (List.flatten [bDR g x ta o lo go tt lt mo fo ro fl9, bMem g mo qT qL it il ig mh me2_46 mx2_47 fT fL, bTown g o a pe wo tx x_58 jo tr dy sd f56, bLog g go gr gz gn fr, bPT g PT2_48, bPL g PL2_49]) := hD
            refine lv_aload_n hx hb dX11_buy_124 rfl (lv_at hl 1 rfl) ?_
            refine va_get (D := g.1) (ci := 9) (v := .ref o) (C := RX11) (T := TX11) (N := 10) hx hb hts izRX11 hown hK hP 0 rfl rfl 1 (by decide) (hts _ k538) (fun _ h9 => h9) rfl dX11_buy_125 ?_
            refine va_get (D := g.1) (ci := 7) (v := .ref (a 1)) (C := RX9) (T := TX9) (N := 19) hx hb hts izRX9 hown hK hP 4 rfl rfl 9 (by decide) (hts _ k614) (fun _ h9 => h9) rfl dX11_buy_128 ?_
            refine lv_iload_n hx hb dX11_buy_131 rfl (lv_at hl 2 rfl) ?_
            refine va_iald hx hb hK hP 6 0 rfl rfl (zinK (a := 0) (b := 7) hq1_0.1 hq1_0.2 (by decide)) dX11_buy_132 ?_
            refine zg (fun x_59 => ?_)
            have hP : va_P g.1 vwCl (List.flatten [bDR g x ta o lo go tt lt mo fo ro fl9, bMem g mo qT qL it il ig mh me2_46 mx2_47 fT fL, bTown g o a pe wo tx x_58 jo tr dy sd f56, bLog g go gr gz gn fr, bPT g PT2_48, bPL g PL2_49]) H := hP
            have hD : va_D A (List.flatten [bDR g x ta o lo go tt lt mo fo ro fl9, bMem g mo qT qL it il ig mh me2_46 mx2_47 fT fL, bTown g o a pe wo tx x_58 jo tr dy sd f56, bLog g go gr gz gn fr, bPT g PT2_48, bPL g PL2_49]) := hD
            obtain ⟨hP, hD⟩ := zord (g := g) (Bs' := [bDR g x ta o lo go tt lt mo fo ro fl9, bTown g o a pe wo tx x_58 jo tr dy sd f56, bLog g go gr gz gn fr, bMem g mo qT qL it il ig mh me2_46 mx2_47 fT fL, bPT g PT2_48, bPL g PL2_49]) [0, 2, 3, 1, 4, 5] rfl rfl hP hD
            exact zret_i hx hb hr hlocks hS (Nat.le_of_ble_eq_true rfl) (Nat.le_of_ble_eq_true rfl) dX11_buy_133 (f56, x_58, me2_46, mx2_47, PT2_48, PL2_49, x_59) rfl (show (zZ4 f56) ∧ (0 ≤ me2_46.toInt ∧ me2_46.toInt ≤ 12) ∧ (0 ≤ mx2_47.toInt ∧ mx2_47.toInt ≤ 11) ∧ (zPT fT PT2_48) ∧ (zPL fL PL2_49) from ⟨rf56, hq50_0, hq50_1, hq50_2, hq50_3⟩) hP hD
