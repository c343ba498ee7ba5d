set_option maxRecDepth 100000 in
set_option maxHeartbeats 4000000 in
theorem c_x_tie (l : Launch) (hfl : l.stackTraces = false) (g : zG) (x : Nat) (ta : Nat) (o : Nat) (lo : Nat) (go : Nat) (tt : Nat) (lt : Nat) (mo : Nat) (fo : Nat) (ro : Nat) (fl9 : Int32) (a : Nat → Nat) (pe : Int32) (wo : Int32) (tx : Int32) (ch : Int32) (jo : Int32) (tr : Int32) (dy : Int32) (sd : Int32) (f : Nat → Nat → Int32) (gr : Nat) (gz : Int32) (gn : Int32) (fr : Nat → Int32) (qT : Nat) (qL : Nat) (it : Nat) (il : Nat) (ig : Nat) (mh : Int32) (me : Int32) (mx : Int32) (fT : Nat → Option Nat) (fL : Nat → Option Nat) (PT : Nat → zTR) (PL : Nat → zLR) (pp : Int32) (oo : Int32) (n : Int32) (b_pe : 0 ≤ pe.toInt ∧ pe.toInt ≤ 8) (b_wo : 0 ≤ wo.toInt ∧ wo.toInt ≤ 6) (rf : zZ4 f) (b_gz : 0 ≤ gz.toInt ∧ gz.toInt ≤ 60) (b_gn : 0 ≤ gn.toInt ∧ gn.toInt ≤ 59) (b_me : 0 ≤ me.toInt ∧ me.toInt ≤ 12) (b_mx : 0 ≤ mx.toInt ∧ mx.toInt ≤ 11) (hPT : zPT fT PT) (hPL : zPL fL PL) : zX' g l yX11_tie (Cond.code yX11_tie cX11_tie 5 (some .int) :: zB) ({ frames := 8, cells := 4, slots := 24, locals := 125 } : Room) [.ref x, .int pp, .int oo, .int n] [bDR g x ta o lo go tt lt mo fo ro fl9, bTown g o a pe wo tx ch jo tr dy sd f, bLog g go gr gz gn fr, bMem g mo qT qL it il ig mh me mx fT fL, bPT g PT, bPL g PL] (fun u : (Nat → Nat → Int32) × Int32 × Int32 × (Nat → zTR) × (Nat → zLR) × Int32 => (fun (f2 : Nat → Nat → Int32) (me2 : Int32) (mx2 : Int32) (PT2 : Nat → zTR) (PL2 : Nat → zLR) (q : Int32) => some (.int q)) (u.1) (u.2.1) (u.2.2.1) (u.2.2.2.1) (u.2.2.2.2.1) (u.2.2.2.2.2)) (fun u : (Nat → Nat → Int32) × Int32 × Int32 × (Nat → zTR) × (Nat → zLR) × Int32 => (fun (f2 : Nat → Nat → Int32) (me2 : Int32) (mx2 : Int32) (PT2 : Nat → zTR) (PL2 : Nat → zLR) (q : Int32) => (zZ4 f2) ∧ (0 ≤ me2.toInt ∧ me2.toInt ≤ 12) ∧ (0 ≤ mx2.toInt ∧ mx2.toInt ≤ 11) ∧ (zPT fT PT2) ∧ (zPL fL PL2)) (u.1) (u.2.1) (u.2.2.1) (u.2.2.2.1) (u.2.2.2.2.1) (u.2.2.2.2.2)) (fun u : (Nat → Nat → Int32) × Int32 × Int32 × (Nat → zTR) × (Nat → zLR) × Int32 => (fun (f2 : Nat → Nat → Int32) (me2 : Int32) (mx2 : Int32) (PT2 : Nat → zTR) (PL2 : Nat → zLR) (q : Int32) => [bDR g x ta o lo go tt lt mo fo ro fl9, bTown g o a pe wo tx ch jo tr dy sd f2, bLog g go gr gz gn fr, bMem g mo qT qL it il ig mh me2 mx2 fT fL, bPT g PT2, bPL g PL2]) (u.1) (u.2.1) (u.2.2.1) (u.2.2.2.1) (u.2.2.2.2.1) (u.2.2.2.2.2)) (fun (E : String) => fun u : (Nat → Nat → Int32) × Int32 × Int32 × (Nat → zTR) × (Nat → zLR) => (fun (f2 : Nat → Nat → Int32) (me2 : Int32) (mx2 : Int32) (PT2 : Nat → zTR) (PL2 : Nat → zLR) => (E = "java/lang/IndexOutOfBoundsException" ∨ E = "java/lang/IllegalArgumentException") ∧ (zZ4 f2) ∧ (0 ≤ me2.toInt ∧ me2.toInt ≤ 12) ∧ (0 ≤ mx2.toInt ∧ mx2.toInt ≤ 11) ∧ (zPT fT PT2) ∧ (zPL fL PL2)) (u.1) (u.2.1) (u.2.2.1) (u.2.2.2.1) (u.2.2.2.2)) (fun u : (Nat → Nat → Int32) × Int32 × Int32 × (Nat → zTR) × (Nat → zLR) => (fun (f2 : Nat → Nat → Int32) (me2 : Int32) (mx2 : Int32) (PT2 : Nat → zTR) (PL2 : Nat → zLR) => [bDR g x ta o lo go tt lt mo fo ro fl9, bTown g o a pe wo tx ch jo tr dy sd f2, bLog g go gr gz gn fr, bMem g mo qT qL it il ig mh me2 mx2 fT fL, bPT g PT2, bPL g PL2]) (u.1) (u.2.1) (u.2.2.1) (u.2.2.2.1) (u.2.2.2.2)) := by
  refine zX'.of (cc := cX11_tie) (maxL := 5) (rt := (some .int)) (by decide) rfl (Nat.le_of_ble_eq_true rfl) ?_
  intro p e s m args below meth c A ls St hr hlocks htab hin hK hT hA hP hD hS hl
  obtain ⟨hx, hb, hml, hown, hts⟩ := id St
  have hl : lv_has ls 5 [(0, .ref x), (1, .int pp), (2, .int oo), (3, .int n)] := hl
  refine lv_aload_n hx hb dX11_tie_0 rfl (lv_at hl 0 rfl) ?_
  refine lv_iload_n hx hb dX11_tie_1 rfl (lv_at hl 1 rfl) ?_
  refine lv_iload_n hx hb dX11_tie_2 rfl (lv_at hl 2 rfl) ?_
  refine xcallV' (g := g) (q0 := 0) (ci := 9) (As := [.int pp, .int oo]) (rest := []) St hK hT hA hP hD hS hl.1 [0, 1] [2, 3, 4, 5] rfl rfl rfl (c_x_needTwo l hfl g x ta o lo go tt lt mo fo ro fl9 a pe wo tx ch jo tr dy sd f pp oo b_pe b_wo rf) (cwV 2 hts (zgL (zl4 k635 k636 k637 k621) k633) rfl rfl rfl (by decide +kernel) ⟨Nat.le_of_ble_eq_true rfl, Nat.le_of_ble_eq_true rfl⟩) rfl rfl rfl rfl (Nat.le_of_ble_eq_true rfl) dX11_tie_3 ⟨(Nat.le_of_ble_eq_true rfl), (Nat.le_of_ble_eq_true rfl)⟩ (fun E ce q9 u9 H locs hpx hP hD hS hce hcv hcl => ?_) (fun _u H locs hq1 hP hD hS => ?_)
  · skip
    have hpx : (E = "java/lang/IndexOutOfBoundsException" ∨ E = "java/lang/IllegalArgumentException") := hpx
    have hP : va_P g.1 vwCl (List.flatten [bLog g go gr gz gn fr, bMem g mo qT qL it il ig mh me mx fT fL, bPT g PT, bPL g PL, bDR g x ta o lo go tt lt mo fo ro fl9, bTown g o a pe wo tx ch jo tr dy sd f]) H := hP
    have hD : va_D A (List.flatten [bLog g go gr gz gn fr, bMem g mo qT qL it il ig mh me mx fT fL, bPT g PT, bPL g PL, bDR g x ta o lo go tt lt mo fo ro fl9, bTown g o a pe wo tx ch jo tr dy sd f]) := hD
    have hP : va_P g.1 vwCl (List.flatten [bLog g go gr gz gn fr, bMem g mo qT qL it il ig mh me mx fT fL, bPT g PT, bPL g PL, bDR g x ta o lo go tt lt mo fo ro fl9, bTown g o a pe wo tx ch jo tr dy sd f]) H := hP
    have hD : va_D A (List.flatten [bLog g go gr gz gn fr, bMem g mo qT qL it il ig mh me mx fT fL, bPT g PT, bPL g PL, bDR g x ta o lo go tt lt mo fo ro fl9, bTown g o a pe wo tx ch jo tr dy sd f]) := hD
    obtain ⟨hP, hD⟩ := zord (g := g) (Bs' := [bLog g go gr gz gn fr, bMem g mo qT qL it il ig mh me mx fT fL, bDR g x ta o lo go tt lt mo fo ro fl9, bTown g o a pe wo tx ch jo tr dy sd f, bPT g PT, bPL g PL]) [0, 1, 4, 5, 2, 3] rfl rfl hP hD
    have hP : va_P g.1 vwCl (List.flatten [bLog g go gr gz gn fr, bMem g mo qT qL it il ig mh me mx fT fL, bDR g x ta o lo go tt lt mo fo ro fl9, bTown g o a pe wo tx ch jo tr dy sd f, bPT g PT, bPL g PL]) H := hP
    have hD : va_D A (List.flatten [bLog g go gr gz gn fr, bMem g mo qT qL it il ig mh me mx fT fL, bDR g x ta o lo go tt lt mo fo ro fl9, bTown g o a pe wo tx ch jo tr dy sd f, bPT g PT, bPL g PL]) := hD
    obtain ⟨hP, hD⟩ := zord (g := g) (Bs' := [bDR g x ta o lo go tt lt mo fo ro fl9, bTown g o a pe wo tx ch jo tr dy sd f, bLog g go gr gz gn fr, bMem g mo qT qL it il ig mh me mx fT fL, bPT g PT, bPL g PL]) [2, 3, 0, 1, 4, 5] rfl rfl hP hD
    exact zout htab hlocks hS (Nat.le_of_ble_eq_true rfl) (Nat.le_of_ble_eq_true rfl) hce hcv hcl (f, me, mx, PT, PL) (show (E = "java/lang/IndexOutOfBoundsException" ∨ E = "java/lang/IllegalArgumentException") ∧ (zZ4 f) ∧ (0 ≤ me.toInt ∧ me.toInt ≤ 12) ∧ (0 ≤ mx.toInt ∧ mx.toInt ≤ 11) ∧ (zPT fT PT) ∧ (zPL fL PL) from ⟨hpx, (show zZ4 f from rf), (show 0 ≤ me.toInt ∧ me.toInt ≤ 12 from b_me), (show 0 ≤ mx.toInt ∧ mx.toInt ≤ 11 from b_mx), (show zPT fT PT from hPT), (show zPL fL PL from hPL)⟩) hP hD
  · skip
    replace hq1 : (0 ≤ pp.toInt ∧ pp.toInt ≤ 7) ∧ (0 ≤ oo.toInt ∧ oo.toInt ≤ 7) := hq1
    have hP : va_P g.1 vwCl (List.flatten [bLog g go gr gz gn fr, bMem g mo qT qL it il ig mh me mx fT fL, bPT g PT, bPL g PL, bDR g x ta o lo go tt lt mo fo ro fl9, bTown g o a pe wo tx ch jo tr dy sd f]) H := hP
    have hD : va_D A (List.flatten [bLog g go gr gz gn fr, bMem g mo qT qL it il ig mh me mx fT fL, bPT g PT, bPL g PL, bDR g x ta o lo go tt lt mo fo ro fl9, bTown g o a pe wo tx ch jo tr dy sd f]) := hD
    refine W.widen (k := 3) (n := 18) (Nat.le_of_ble_eq_true rfl) (Nat.le_of_ble_eq_true rfl) ?_
    refine W.eq (g2 := F0 m 6 ls []) rfl ?_
    have hP : va_P g.1 vwCl (List.flatten [bLog g go gr gz gn fr, bMem g mo qT qL it il ig mh me mx fT fL, bPT g PT, bPL g PL, bDR g x ta o lo go tt lt mo fo ro fl9, bTown g o a pe wo tx ch jo tr dy sd f]) H := hP
    have hD : va_D A (List.flatten [bLog g go gr gz gn fr, bMem g mo qT qL it il ig mh me mx fT fL, bPT g PT, bPL g PL, bDR g x ta o lo go tt lt mo fo ro fl9, bTown g o a pe wo tx ch jo tr dy sd f]) := hD
    obtain ⟨hP, hD⟩ := zord (g := g) (Bs' := [bLog g go gr gz gn fr, bMem g mo qT qL it il ig mh me mx fT fL, bDR g x ta o lo go tt lt mo fo ro fl9, bTown g o a pe wo tx ch jo tr dy sd f, bPT g PT, bPL g PL]) [0, 1, 4, 5, 2, 3] rfl rfl hP hD
    obtain ⟨hq1_0, hq1_1⟩ := hq1
    refine lv_aload_n hx hb dX11_tie_6 rfl (lv_at hl 0 rfl) ?_
    refine lv_iload_n hx hb dX11_tie_7 rfl (lv_at hl 3 rfl) ?_
    refine lv_iconst (v := 0) hx hb dX11_tie_8 (by decide) ?_
    refine lv_bipush (v := 9) hx hb dX11_tie_9 (by decide) ?_
    refine xcallV' (g := g) (q0 := 0) (ci := 9) (As := [.int n, .int 0, .int 9]) (rest := []) St hK hT hA hP hD hS hl.1 [2] [0, 1, 3, 4, 5] rfl rfl rfl (c_x_nw_0_9 l hfl g x ta o lo go tt lt mo fo ro fl9 n ) (cwV 3 hts (zgL (zl4 k668 k669 k670 k621) k667) rfl rfl rfl (by decide +kernel) ⟨Nat.le_of_ble_eq_true rfl, Nat.le_of_ble_eq_true rfl⟩) rfl rfl rfl rfl (Nat.le_of_ble_eq_true rfl) dX11_tie_11 ⟨(Nat.le_of_ble_eq_true rfl), (Nat.le_of_ble_eq_true rfl)⟩ (fun E ce q9 u9 H locs hpx hP hD hS hce hcv hcl => ?_) (fun _u H locs hq2 hP hD hS => ?_)
    · skip
      have hpx : (E = "java/lang/IllegalArgumentException") := hpx
      have hP : va_P g.1 vwCl (List.flatten [bLog g go gr gz gn fr, bMem g mo qT qL it il ig mh me mx fT fL, bTown g o a pe wo tx ch jo tr dy sd f, bPT g PT, bPL g PL, bDR g x ta o lo go tt lt mo fo ro fl9]) H := hP
      have hD : va_D A (List.flatten [bLog g go gr gz gn fr, bMem g mo qT qL it il ig mh me mx fT fL, bTown g o a pe wo tx ch jo tr dy sd f, bPT g PT, bPL g PL, bDR g x ta o lo go tt lt mo fo ro fl9]) := hD
      have hP : va_P g.1 vwCl (List.flatten [bLog g go gr gz gn fr, bMem g mo qT qL it il ig mh me mx fT fL, bTown g o a pe wo tx ch jo tr dy sd f, bPT g PT, bPL g PL, bDR g x ta o lo go tt lt mo fo ro fl9]) H := hP
      have hD : va_D A (List.flatten [bLog g go gr gz gn fr, bMem g mo qT qL it il ig mh me mx fT fL, bTown g o a pe wo tx ch jo tr dy sd f, bPT g PT, bPL g PL, bDR g x ta o lo go tt lt mo fo ro fl9]) := hD
      obtain ⟨hP, hD⟩ := zord (g := g) (Bs' := [bLog g go gr gz gn fr, bMem g mo qT qL it il ig mh me mx fT fL, bTown g o a pe wo tx ch jo tr dy sd f, bDR g x ta o lo go tt lt mo fo ro fl9, bPT g PT, bPL g PL]) [0, 1, 2, 5, 3, 4] rfl rfl hP hD
      have hP : va_P g.1 vwCl (List.flatten [bLog g go gr gz gn fr, bMem g mo qT qL it il ig mh me mx fT fL, bTown g o a pe wo tx ch jo tr dy sd f, bDR g x ta o lo go tt lt mo fo ro fl9, bPT g PT, bPL g PL]) H := hP
      have hD : va_D A (List.flatten [bLog g go gr gz gn fr, bMem g mo qT qL it il ig mh me mx fT fL, bTown g o a pe wo tx ch jo tr dy sd f, bDR g x ta o lo go tt lt mo fo ro fl9, bPT g PT, bPL g PL]) := hD
      obtain ⟨hP, hD⟩ := zord (g := g) (Bs' := [bDR g x ta o lo go tt lt mo fo ro fl9, bTown g o a pe wo tx ch jo tr dy sd f, bLog g go gr gz gn fr, bMem g mo qT qL it il ig mh me mx fT fL, bPT g PT, bPL g PL]) [3, 2, 0, 1, 4, 5] rfl rfl hP hD
      exact zout htab hlocks hS (Nat.le_of_ble_eq_true rfl) (Nat.le_of_ble_eq_true rfl) hce hcv hcl (f, me, mx, PT, PL) (show (E = "java/lang/IndexOutOfBoundsException" ∨ E = "java/lang/IllegalArgumentException") ∧ (zZ4 f) ∧ (0 ≤ me.toInt ∧ me.toInt ≤ 12) ∧ (0 ≤ mx.toInt ∧ mx.toInt ≤ 11) ∧ (zPT fT PT) ∧ (zPL fL PL) from ⟨(Or.inr hpx), (show zZ4 f from rf), (show 0 ≤ me.toInt ∧ me.toInt ≤ 12 from b_me), (show 0 ≤ mx.toInt ∧ mx.toInt ≤ 11 from b_mx), (show zPT fT PT from hPT), (show zPL fL PL from hPL)⟩) hP hD
    · skip
      replace hq2 : (0 ≤ n.toInt ∧ n.toInt ≤ 9) := hq2
      have hP : va_P g.1 vwCl (List.flatten [bLog g go gr gz gn fr, bMem g mo qT qL it il ig mh me mx fT fL, bTown g o a pe wo tx ch jo tr dy sd f, bPT g PT, bPL g PL, bDR g x ta o lo go tt lt mo fo ro fl9]) H := hP
      have hD : va_D A (List.flatten [bLog g go gr gz gn fr, bMem g mo qT qL it il ig mh me mx fT fL, bTown g o a pe wo tx ch jo tr dy sd f, bPT g PT, bPL g PL, bDR g x ta o lo go tt lt mo fo ro fl9]) := hD
      refine W.widen (k := 4) (n := 24) (Nat.le_of_ble_eq_true rfl) (Nat.le_of_ble_eq_true rfl) ?_
      refine W.eq (g2 := F0 m 14 ls []) rfl ?_
      have hP : va_P g.1 vwCl (List.flatten [bLog g go gr gz gn fr, bMem g mo qT qL it il ig mh me mx fT fL, bTown g o a pe wo tx ch jo tr dy sd f, bPT g PT, bPL g PL, bDR g x ta o lo go tt lt mo fo ro fl9]) H := hP
      have hD : va_D A (List.flatten [bLog g go gr gz gn fr, bMem g mo qT qL it il ig mh me mx fT fL, bTown g o a pe wo tx ch jo tr dy sd f, bPT g PT, bPL g PL, bDR g x ta o lo go tt lt mo fo ro fl9]) := hD
      obtain ⟨hP, hD⟩ := zord (g := g) (Bs' := [bLog g go gr gz gn fr, bMem g mo qT qL it il ig mh me mx fT fL, bTown g o a pe wo tx ch jo tr dy sd f, bDR g x ta o lo go tt lt mo fo ro fl9, bPT g PT, bPL g PL]) [0, 1, 2, 5, 3, 4] rfl rfl hP hD
      refine lv_aload_n hx hb dX11_tie_14 rfl (lv_at hl 0 rfl) ?_
      refine va_get (D := g.1) (ci := 9) (v := .ref mo) (C := RX11) (T := TX11) (N := 10) hx hb hts izRX11 hown hK hP 17 rfl rfl 6 (by decide) (hts _ k551) (fun _ h9 => h9) rfl dX11_tie_15 ?_
      refine lv_aload_n hx hb dX11_tie_18 rfl (lv_at hl 0 rfl) ?_
      refine va_get (D := g.1) (ci := 9) (v := .ref o) (C := RX11) (T := TX11) (N := 10) hx hb hts izRX11 hown hK hP 17 rfl rfl 1 (by decide) (hts _ k538) (fun _ h9 => h9) rfl dX11_tie_19 ?_
      refine lv_aload_n hx hb dX11_tie_22 rfl (lv_at hl 0 rfl) ?_
      refine va_get (D := g.1) (ci := 9) (v := .ref go) (C := RX11) (T := TX11) (N := 10) hx hb hts izRX11 hown hK hP 17 rfl rfl 3 (by decide) (hts _ k542) (fun _ h9 => h9) rfl dX11_tie_23 ?_
      refine mcallV' (g := g) (q0 := 0) (ci := 4) (As := [.ref o, .ref go]) (rest := []) St hK hT hA hP hD hS hl.1 [1, 2, 0, 4, 5] [3] rfl rfl rfl (c_m_remember l g mo qT qL it il ig mh me mx fT fL o a pe wo tx ch jo tr dy sd f go gr gz gn fr PT PL b_me b_mx b_pe b_wo rf b_gz b_gn hPT hPL) (cwV 2 hts (zgL (zl4 k662 k663 k664 k378) k367) rfl rfl rfl (by decide +kernel) ⟨Nat.le_of_ble_eq_true rfl, Nat.le_of_ble_eq_true rfl⟩) rfl rfl rfl rfl (Nat.le_of_ble_eq_true rfl) dX11_tie_26 ⟨(Nat.le_of_ble_eq_true rfl), (Nat.le_of_ble_eq_true rfl)⟩ (fun u_ H locs hq7 hP hD hS => ?_)
      obtain ⟨me2_3, mx2_4, PT2_5, PL2_6⟩ := u_
      replace hq7 : (0 ≤ me2_3.toInt ∧ me2_3.toInt ≤ 12) ∧ (0 ≤ mx2_4.toInt ∧ mx2_4.toInt ≤ 11) ∧ (zPT fT PT2_5) ∧ (zPL fL PL2_6) := hq7
      have hP : va_P g.1 vwCl (List.flatten [bDR g x ta o lo go tt lt mo fo ro fl9, bMem g mo qT qL it il ig mh me2_3 mx2_4 fT fL, bTown g o a pe wo tx ch jo tr dy sd f, bLog g go gr gz gn fr, bPT g PT2_5, bPL g PL2_6]) H := hP
      have hD : va_D A (List.flatten [bDR g x ta o lo go tt lt mo fo ro fl9, bMem g mo qT qL it il ig mh me2_3 mx2_4 fT fL, bTown g o a pe wo tx ch jo tr dy sd f, bLog g go gr gz gn fr, bPT g PT2_5, bPL g PL2_6]) := hD
      refine W.widen (k := 4) (n := 24) (Nat.le_of_ble_eq_true rfl) (Nat.le_of_ble_eq_true rfl) ?_
      refine W.eq (g2 := F0 m 29 ls []) rfl ?_
      obtain ⟨hq7_0, hq7_1, hq7_2, hq7_3⟩ := hq7
      refine lv_aload_n hx hb dX11_tie_29 rfl (lv_at hl 0 rfl) ?_
      refine va_get (D := g.1) (ci := 9) (v := .ref o) (C := RX11) (T := TX11) (N := 10) hx hb hts izRX11 hown hK hP 0 rfl rfl 1 (by decide) (hts _ k538) (fun _ h9 => h9) rfl dX11_tie_30 ?_
      refine lv_iload_n hx hb dX11_tie_33 rfl (lv_at hl 1 rfl) ?_
      refine lv_iload_n hx hb dX11_tie_34 rfl (lv_at hl 2 rfl) ?_
      refine mcallV' (g := g) (q0 := 0) (ci := 7) (As := [.int pp, .int oo]) (rest := []) St hK hT hA hP hD hS hl.1 [2] [0, 1, 3, 4, 5] rfl rfl rfl (c_trustOf l g o a pe wo tx ch jo tr dy sd f pp oo hq1_0 hq1_1) (cwV 2 hts (zgL (zl4 k638 k90 k91 k24) k87) rfl rfl rfl (by decide +kernel) ⟨Nat.le_of_ble_eq_true rfl, Nat.le_of_ble_eq_true rfl⟩) rfl rfl rfl rfl (Nat.le_of_ble_eq_true rfl) dX11_tie_35 ⟨(Nat.le_of_ble_eq_true rfl), (Nat.le_of_ble_eq_true rfl)⟩ (fun q_8 H locs hq9 hP hD hS => ?_)
      have hP : va_P g.1 vwCl (List.flatten [bDR g x ta o lo go tt lt mo fo ro fl9, bMem g mo qT qL it il ig mh me2_3 mx2_4 fT fL, bLog g go gr gz gn fr, bPT g PT2_5, bPL g PL2_6, bTown g o a pe wo tx ch jo tr dy sd f]) H := hP
      have hD : va_D A (List.flatten [bDR g x ta o lo go tt lt mo fo ro fl9, bMem g mo qT qL it il ig mh me2_3 mx2_4 fT fL, bLog g go gr gz gn fr, bPT g PT2_5, bPL g PL2_6, bTown g o a pe wo tx ch jo tr dy sd f]) := hD
      refine W.widen (k := 4) (n := 24) (Nat.le_of_ble_eq_true rfl) (Nat.le_of_ble_eq_true rfl) ?_
      refine W.eq (g2 := F0 m 38 ls [.int q_8]) rfl ?_
      have hP : va_P g.1 vwCl (List.flatten [bDR g x ta o lo go tt lt mo fo ro fl9, bMem g mo qT qL it il ig mh me2_3 mx2_4 fT fL, bLog g go gr gz gn fr, bPT g PT2_5, bPL g PL2_6, bTown g o a pe wo tx ch jo tr dy sd f]) H := hP
      have hD : va_D A (List.flatten [bDR g x ta o lo go tt lt mo fo ro fl9, bMem g mo qT qL it il ig mh me2_3 mx2_4 fT fL, bLog g go gr gz gn fr, bPT g PT2_5, bPL g PL2_6, bTown g o a pe wo tx ch jo tr dy sd f]) := hD
      obtain ⟨hP, hD⟩ := zord (g := g) (Bs' := [bDR g x ta o lo go tt lt mo fo ro fl9, bMem g mo qT qL it il ig mh me2_3 mx2_4 fT fL, bLog g go gr gz gn fr, bTown g o a pe wo tx ch jo tr dy sd f, bPT g PT2_5, bPL g PL2_6]) [0, 1, 2, 5, 3, 4] rfl rfl hP hD
      refine lv_istore (lv' := [(4, .int q_8), (0, .ref x), (1, .int pp), (2, .int oo), (3, .int n)]) hx hb dX11_tie_38 hl (by decide) rfl (fun ls hl => ?_)
      refine lv_aload_n hx hb dX11_tie_40 rfl (lv_at hl 1 rfl) ?_
      refine va_get (D := g.1) (ci := 9) (v := .ref o) (C := RX11) (T := TX11) (N := 10) hx hb hts izRX11 hown hK hP 0 rfl rfl 1 (by decide) (hts _ k538) (fun _ h9 => h9) rfl dX11_tie_41 ?_
      refine lv_iload_n hx hb dX11_tie_44 rfl (lv_at hl 2 rfl) ?_
      refine lv_iload_n hx hb dX11_tie_45 rfl (lv_at hl 3 rfl) ?_
      refine lv_iload_n hx hb dX11_tie_46 rfl (lv_at hl 4 rfl) ?_
      refine mcallV' (g := g) (q0 := 0) (ci := 7) (As := [.int pp, .int oo, .int n]) (rest := []) St hK hT hA hP hD hS hl.1 [3] [0, 1, 2, 4, 5] rfl rfl rfl (c_setTrust l g o a pe wo tx ch jo tr dy sd f pp oo n rf hq1_0 hq1_1) (cwV 3 hts (zgL (zl4 k671 k437 k438 k24) k434) rfl rfl rfl (by decide +kernel) ⟨Nat.le_of_ble_eq_true rfl, Nat.le_of_ble_eq_true rfl⟩) rfl rfl rfl rfl (Nat.le_of_ble_eq_true rfl) dX11_tie_47 ⟨(Nat.le_of_ble_eq_true rfl), (Nat.le_of_ble_eq_true rfl)⟩ (fun f2_10 H locs hq11 hP hD hS => ?_)
      replace hq11 : (zZ4 f2_10) := hq11
      have hP : va_P g.1 vwCl (List.flatten [bDR g x ta o lo go tt lt mo fo ro fl9, bMem g mo qT qL it il ig mh me2_3 mx2_4 fT fL, bLog g go gr gz gn fr, bPT g PT2_5, bPL g PL2_6, bTown g o a pe wo tx ch jo tr dy sd f2_10]) H := hP
      have hD : va_D A (List.flatten [bDR g x ta o lo go tt lt mo fo ro fl9, bMem g mo qT qL it il ig mh me2_3 mx2_4 fT fL, bLog g go gr gz gn fr, bPT g PT2_5, bPL g PL2_6, bTown g o a pe wo tx ch jo tr dy sd f2_10]) := hD
      refine W.widen (k := 4) (n := 24) (Nat.le_of_ble_eq_true rfl) (Nat.le_of_ble_eq_true rfl) ?_
      refine W.eq (g2 := F0 m 50 ls []) rfl ?_
      have hP : va_P g.1 vwCl (List.flatten [bDR g x ta o lo go tt lt mo fo ro fl9, bMem g mo qT qL it il ig mh me2_3 mx2_4 fT fL, bLog g go gr gz gn fr, bPT g PT2_5, bPL g PL2_6, bTown g o a pe wo tx ch jo tr dy sd f2_10]) H := hP
      have hD : va_D A (List.flatten [bDR g x ta o lo go tt lt mo fo ro fl9, bMem g mo qT qL it il ig mh me2_3 mx2_4 fT fL, bLog g go gr gz gn fr, bPT g PT2_5, bPL g PL2_6, bTown g o a pe wo tx ch jo tr dy sd f2_10]) := hD
      obtain ⟨hP, hD⟩ := zord (g := g) (Bs' := [bDR g x ta o lo go tt lt mo fo ro fl9, bMem g mo qT qL it il ig mh me2_3 mx2_4 fT fL, bLog g go gr gz gn fr, bTown g o a pe wo tx ch jo tr dy sd f2_10, bPT g PT2_5, bPL g PL2_6]) [0, 1, 2, 5, 3, 4] rfl rfl hP hD
      have rf2_10 := hq11; clear hq11
      refine lv_iload hx hb dX11_tie_50 (lv_at hl 0 rfl) ?_
      have hP : va_P g.1 vwCl (List.flatten [bDR g x ta o lo go tt lt mo fo ro fl9, bMem g mo qT qL it il ig mh me2_3 mx2_4 fT fL, bLog g go gr gz gn fr, bTown g o a pe wo tx ch jo tr dy sd f2_10, bPT g PT2_5, bPL g PL2_6]) H := hP
      have hD : va_D A (List.flatten [bDR g x ta o lo go tt lt mo fo ro fl9, bMem g mo qT qL it il ig mh me2_3 mx2_4 fT fL, bLog g go gr gz gn fr, bTown g o a pe wo tx ch jo tr dy sd f2_10, bPT g PT2_5, bPL g PL2_6]) := hD
      obtain ⟨hP, hD⟩ := zord (g := g) (Bs' := [bDR g x ta o lo go tt lt mo fo ro fl9, bTown g o a pe wo tx ch jo tr dy sd f2_10, bLog g go gr gz gn fr, bMem g mo qT qL it il ig mh me2_3 mx2_4 fT fL, bPT g PT2_5, bPL g PL2_6]) [0, 3, 2, 1, 4, 5] rfl rfl hP hD
      exact zret_i hx hb hr hlocks hS (Nat.le_of_ble_eq_true rfl) (Nat.le_of_ble_eq_true rfl) dX11_tie_52 (f2_10, me2_3, mx2_4, PT2_5, PL2_6, q_8) rfl (show (zZ4 f2_10) ∧ (0 ≤ me2_3.toInt ∧ me2_3.toInt ≤ 12) ∧ (0 ≤ mx2_4.toInt ∧ mx2_4.toInt ≤ 11) ∧ (zPT fT PT2_5) ∧ (zPL fL PL2_6) from ⟨rf2_10, hq7_0, hq7_1, hq7_2, hq7_3⟩) hP hD
