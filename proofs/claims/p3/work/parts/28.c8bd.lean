set_option maxRecDepth 100000 in
set_option maxHeartbeats 4000000 in
theorem c_x_plan (l : Launch) (hfl : l.stackTraces = false) (g : zG) (x : Nat) (ta : Nat) (o : Nat) (lo : Nat) (go : Nat) (tt : Nat) (lt : Nat) (mo : Nat) (fo : Nat) (ro : Nat) (fl9 : Int32) (a : Nat → Nat) (pe : Int32) (wo : Int32) (tx : Int32) (ch : Int32) (jo : Int32) (tr : Int32) (dy : Int32) (sd : Int32) (f : Nat → Nat → Int32) (gr : Nat) (gz : Int32) (gn : Int32) (fr : Nat → Int32) (qT : Nat) (qL : Nat) (it : Nat) (il : Nat) (ig : Nat) (mh : Int32) (me : Int32) (mx : Int32) (fT : Nat → Option Nat) (fL : Nat → Option Nat) (PT : Nat → zTR) (PL : Nat → zLR) (ww : Int32) (b_pe : 0 ≤ pe.toInt ∧ pe.toInt ≤ 8) (b_wo : 0 ≤ wo.toInt ∧ wo.toInt ≤ 6) (rf : zZ4 f) (b_gz : 0 ≤ gz.toInt ∧ gz.toInt ≤ 60) (b_gn : 0 ≤ gn.toInt ∧ gn.toInt ≤ 59) (b_me : 0 ≤ me.toInt ∧ me.toInt ≤ 12) (b_mx : 0 ≤ mx.toInt ∧ mx.toInt ≤ 11) (hPT : zPT fT PT) (hPL : zPL fL PL) : zX' g l yX11_plan (Cond.code yX11_plan cX11_plan 2 none :: zB) ({ frames := 7, cells := 2, slots := 12, locals := 103 } : Room) [.ref x, .int ww] [bDR g x ta o lo go tt lt mo fo ro fl9, bTown g o a pe wo tx ch jo tr dy sd f, bLog g go gr gz gn fr, bMem g mo qT qL it il ig mh me mx fT fL, bPT g PT, bPL g PL] (fun u : (Nat → Nat → Int32) × Int32 × Int32 × (Nat → zTR) × (Nat → zLR) => (fun (f2 : Nat → Nat → Int32) (me2 : Int32) (mx2 : Int32) (PT2 : Nat → zTR) (PL2 : Nat → zLR) => none) (u.1) (u.2.1) (u.2.2.1) (u.2.2.2.1) (u.2.2.2.2)) (fun u : (Nat → Nat → Int32) × Int32 × Int32 × (Nat → zTR) × (Nat → zLR) => (fun (f2 : Nat → Nat → Int32) (me2 : Int32) (mx2 : Int32) (PT2 : Nat → zTR) (PL2 : Nat → zLR) => (zZ4 f2) ∧ (0 ≤ me2.toInt ∧ me2.toInt ≤ 12) ∧ (0 ≤ mx2.toInt ∧ mx2.toInt ≤ 11) ∧ (zPT fT PT2) ∧ (zPL fL PL2)) (u.1) (u.2.1) (u.2.2.1) (u.2.2.2.1) (u.2.2.2.2)) (fun u : (Nat → Nat → Int32) × Int32 × Int32 × (Nat → zTR) × (Nat → zLR) => (fun (f2 : Nat → Nat → Int32) (me2 : Int32) (mx2 : Int32) (PT2 : Nat → zTR) (PL2 : Nat → zLR) => [bDR g x ta o lo go tt lt mo fo ro fl9, bTown g o a pe wo tx ch jo tr dy sd f2, bLog g go gr gz gn fr, bMem g mo qT qL it il ig mh me2 mx2 fT fL, bPT g PT2, bPL g PL2]) (u.1) (u.2.1) (u.2.2.1) (u.2.2.2.1) (u.2.2.2.2)) (fun (E : String) => fun u : (Nat → Nat → Int32) × Int32 × Int32 × (Nat → zTR) × (Nat → zLR) => (fun (f2 : Nat → Nat → Int32) (me2 : Int32) (mx2 : Int32) (PT2 : Nat → zTR) (PL2 : Nat → zLR) => (E = "java/lang/IndexOutOfBoundsException" ∨ E = "java/lang/IllegalStateException") ∧ (zZ4 f2) ∧ (0 ≤ me2.toInt ∧ me2.toInt ≤ 12) ∧ (0 ≤ mx2.toInt ∧ mx2.toInt ≤ 11) ∧ (zPT fT PT2) ∧ (zPL fL PL2)) (u.1) (u.2.1) (u.2.2.1) (u.2.2.2.1) (u.2.2.2.2)) (fun u : (Nat → Nat → Int32) × Int32 × Int32 × (Nat → zTR) × (Nat → zLR) => (fun (f2 : Nat → Nat → Int32) (me2 : Int32) (mx2 : Int32) (PT2 : Nat → zTR) (PL2 : Nat → zLR) => [bDR g x ta o lo go tt lt mo fo ro fl9, bTown g o a pe wo tx ch jo tr dy sd f2, bLog g go gr gz gn fr, bMem g mo qT qL it il ig mh me2 mx2 fT fL, bPT g PT2, bPL g PL2]) (u.1) (u.2.1) (u.2.2.1) (u.2.2.2.1) (u.2.2.2.2)) := by
  refine zX'.of (cc := cX11_plan) (maxL := 2) (rt := none) (by decide) rfl (Nat.le_of_ble_eq_true rfl) ?_
  intro p e s m args below meth c A ls St hr hlocks htab hin hK hT hA hP hD hS hl
  obtain ⟨hx, hb, hml, hown, hts⟩ := id St
  have hl : lv_has ls 2 [(0, .ref x), (1, .int ww)] := hl
  refine lv_aload_n hx hb dX11_plan_0 rfl (lv_at hl 0 rfl) ?_
  refine lv_iload_n hx hb dX11_plan_1 rfl (lv_at hl 1 rfl) ?_
  refine xcallV' (g := g) (q0 := 0) (ci := 9) (As := [.int ww]) (rest := []) St hK hT hA hP hD hS hl.1 [0, 1] [2, 3, 4, 5] rfl rfl rfl (c_x_needWork l hfl g x ta o lo go tt lt mo fo ro fl9 a pe wo tx ch jo tr dy sd f ww b_pe b_wo rf) (cwV 1 hts (zgL (zl4 k646 k647 k648 k621) k639) rfl rfl rfl (by decide +kernel) ⟨Nat.le_of_ble_eq_true rfl, Nat.le_of_ble_eq_true rfl⟩) rfl rfl rfl rfl (Nat.le_of_ble_eq_true rfl) dX11_plan_2 ⟨(Nat.le_of_ble_eq_true rfl), (Nat.le_of_ble_eq_true rfl)⟩ (fun E ce q9 u9 H locs hpx hP hD hS hce hcv hcl => ?_) (fun _u H locs hq1 hP hD hS => ?_)
  · skip
    have hpx : (E = "java/lang/IndexOutOfBoundsException") := hpx
    have hP : va_P g.1 vwCl (List.flatten [bLog g go gr gz gn fr, bMem g mo qT qL it il ig mh me mx fT fL, bPT g PT, bPL g PL, bDR g x ta o lo go tt lt mo fo ro fl9, bTown g o a pe wo tx ch jo tr dy sd f]) H := hP
    have hD : va_D A (List.flatten [bLog g go gr gz gn fr, bMem g mo qT qL it il ig mh me mx fT fL, bPT g PT, bPL g PL, bDR g x ta o lo go tt lt mo fo ro fl9, bTown g o a pe wo tx ch jo tr dy sd f]) := hD
    have hP : va_P g.1 vwCl (List.flatten [bLog g go gr gz gn fr, bMem g mo qT qL it il ig mh me mx fT fL, bPT g PT, bPL g PL, bDR g x ta o lo go tt lt mo fo ro fl9, bTown g o a pe wo tx ch jo tr dy sd f]) H := hP
    have hD : va_D A (List.flatten [bLog g go gr gz gn fr, bMem g mo qT qL it il ig mh me mx fT fL, bPT g PT, bPL g PL, bDR g x ta o lo go tt lt mo fo ro fl9, bTown g o a pe wo tx ch jo tr dy sd f]) := hD
    obtain ⟨hP, hD⟩ := zord (g := g) (Bs' := [bLog g go gr gz gn fr, bMem g mo qT qL it il ig mh me mx fT fL, bDR g x ta o lo go tt lt mo fo ro fl9, bTown g o a pe wo tx ch jo tr dy sd f, bPT g PT, bPL g PL]) [0, 1, 4, 5, 2, 3] rfl rfl hP hD
    have hP : va_P g.1 vwCl (List.flatten [bLog g go gr gz gn fr, bMem g mo qT qL it il ig mh me mx fT fL, bDR g x ta o lo go tt lt mo fo ro fl9, bTown g o a pe wo tx ch jo tr dy sd f, bPT g PT, bPL g PL]) H := hP
    have hD : va_D A (List.flatten [bLog g go gr gz gn fr, bMem g mo qT qL it il ig mh me mx fT fL, bDR g x ta o lo go tt lt mo fo ro fl9, bTown g o a pe wo tx ch jo tr dy sd f, bPT g PT, bPL g PL]) := hD
    obtain ⟨hP, hD⟩ := zord (g := g) (Bs' := [bDR g x ta o lo go tt lt mo fo ro fl9, bTown g o a pe wo tx ch jo tr dy sd f, bLog g go gr gz gn fr, bMem g mo qT qL it il ig mh me mx fT fL, bPT g PT, bPL g PL]) [2, 3, 0, 1, 4, 5] rfl rfl hP hD
    exact zout htab hlocks hS (Nat.le_of_ble_eq_true rfl) (Nat.le_of_ble_eq_true rfl) hce hcv hcl (f, me, mx, PT, PL) (show (E = "java/lang/IndexOutOfBoundsException" ∨ E = "java/lang/IllegalStateException") ∧ (zZ4 f) ∧ (0 ≤ me.toInt ∧ me.toInt ≤ 12) ∧ (0 ≤ mx.toInt ∧ mx.toInt ≤ 11) ∧ (zPT fT PT) ∧ (zPL fL PL) from ⟨(Or.inl hpx), (show zZ4 f from rf), (show 0 ≤ me.toInt ∧ me.toInt ≤ 12 from b_me), (show 0 ≤ mx.toInt ∧ mx.toInt ≤ 11 from b_mx), (show zPT fT PT from hPT), (show zPL fL PL from hPL)⟩) hP hD
  · skip
    replace hq1 : (0 ≤ ww.toInt ∧ ww.toInt ≤ 5) ∧ (ww.toInt < wo.toInt) := hq1
    have hP : va_P g.1 vwCl (List.flatten [bLog g go gr gz gn fr, bMem g mo qT qL it il ig mh me mx fT fL, bPT g PT, bPL g PL, bDR g x ta o lo go tt lt mo fo ro fl9, bTown g o a pe wo tx ch jo tr dy sd f]) H := hP
    have hD : va_D A (List.flatten [bLog g go gr gz gn fr, bMem g mo qT qL it il ig mh me mx fT fL, bPT g PT, bPL g PL, bDR g x ta o lo go tt lt mo fo ro fl9, bTown g o a pe wo tx ch jo tr dy sd f]) := hD
    refine W.widen (k := 1) (n := 6) (Nat.le_of_ble_eq_true rfl) (Nat.le_of_ble_eq_true rfl) ?_
    refine W.eq (g2 := F0 m 5 ls []) rfl ?_
    have hP : va_P g.1 vwCl (List.flatten [bLog g go gr gz gn fr, bMem g mo qT qL it il ig mh me mx fT fL, bPT g PT, bPL g PL, bDR g x ta o lo go tt lt mo fo ro fl9, bTown g o a pe wo tx ch jo tr dy sd f]) H := hP
    have hD : va_D A (List.flatten [bLog g go gr gz gn fr, bMem g mo qT qL it il ig mh me mx fT fL, bPT g PT, bPL g PL, bDR g x ta o lo go tt lt mo fo ro fl9, bTown g o a pe wo tx ch jo tr dy sd f]) := hD
    obtain ⟨hP, hD⟩ := zord (g := g) (Bs' := [bLog g go gr gz gn fr, bMem g mo qT qL it il ig mh me mx fT fL, bDR g x ta o lo go tt lt mo fo ro fl9, bTown g o a pe wo tx ch jo tr dy sd f, bPT g PT, bPL g PL]) [0, 1, 4, 5, 2, 3] rfl rfl hP hD
    obtain ⟨hq1_0, hq1_1⟩ := hq1
    refine lv_aload_n hx hb dX11_plan_5 rfl (lv_at hl 0 rfl) ?_
    refine lv_aload_n hx hb dX11_plan_6 rfl (lv_at hl 0 rfl) ?_
    refine va_get (D := g.1) (ci := 9) (v := .ref o) (C := RX11) (T := TX11) (N := 10) hx hb hts izRX11 hown hK hP 5 rfl rfl 1 (by decide) (hts _ k538) (fun _ h9 => h9) rfl dX11_plan_7 ?_
    refine va_get (D := g.1) (ci := 7) (v := .ref (a 9)) (C := RX9) (T := TX9) (N := 19) hx hb hts izRX9 hown hK hP 6 rfl rfl 17 (by decide) (hts _ k645) (fun _ h9 => h9) rfl dX11_plan_10 ?_
    refine lv_iload_n hx hb dX11_plan_13 rfl (lv_at hl 1 rfl) ?_
    refine va_iald hx hb hK hP 16 0 rfl rfl (zinK (a := 0) (b := 5) hq1_0.1 hq1_0.2 (by decide)) dX11_plan_14 ?_
    refine zg (fun x_2 => ?_)
    refine lv_iconst (v := 2) hx hb dX11_plan_15 (by decide) ?_
    refine lv_icmp_ne (tgt := 23) hx hb dX11_plan_16 (by decide) (fun cb9 => ?_) (fun cb9 => ?_)
    · skip
      have c3 : ¬ x_2.toInt = 2 := zne cb9 rfl (by decide)
      refine lv_iconst (v := 0) hx hb dX11_plan_23 (by decide) ?_
      refine xcallV' (g := g) (q0 := 0) (ci := 9) (As := [.int 0]) (rest := []) St hK hT hA hP hD hS hl.1 [2] [0, 1, 3, 4, 5] rfl rfl rfl (c_x_needState l hfl g x ta o lo go tt lt mo fo ro fl9 0 ) (cwV 1 hts (zgL (zl4 k656 k657 k658 k621) k651) rfl rfl rfl (by decide +kernel) ⟨Nat.le_of_ble_eq_true rfl, Nat.le_of_ble_eq_true rfl⟩) rfl rfl rfl rfl (Nat.le_of_ble_eq_true rfl) dX11_plan_24 ⟨(Nat.le_of_ble_eq_true rfl), (Nat.le_of_ble_eq_true rfl)⟩ (fun E ce q9 u9 H locs hpx hP hD hS hce hcv hcl => ?_) (fun _u H locs hq4 hP hD hS => ?_)
      · skip
        have hpx : (E = "java/lang/IllegalStateException") := hpx
        have hP : va_P g.1 vwCl (List.flatten [bLog g go gr gz gn fr, bMem g mo qT qL it il ig mh me mx fT fL, bTown g o a pe wo tx ch jo tr dy sd f, bPT g PT, bPL g PL, bDR g x ta o lo go tt lt mo fo ro fl9]) H := hP
        have hD : va_D A (List.flatten [bLog g go gr gz gn fr, bMem g mo qT qL it il ig mh me mx fT fL, bTown g o a pe wo tx ch jo tr dy sd f, bPT g PT, bPL g PL, bDR g x ta o lo go tt lt mo fo ro fl9]) := hD
        have hP : va_P g.1 vwCl (List.flatten [bLog g go gr gz gn fr, bMem g mo qT qL it il ig mh me mx fT fL, bTown g o a pe wo tx ch jo tr dy sd f, bPT g PT, bPL g PL, bDR g x ta o lo go tt lt mo fo ro fl9]) H := hP
        have hD : va_D A (List.flatten [bLog g go gr gz gn fr, bMem g mo qT qL it il ig mh me mx fT fL, bTown g o a pe wo tx ch jo tr dy sd f, bPT g PT, bPL g PL, bDR g x ta o lo go tt lt mo fo ro fl9]) := hD
        obtain ⟨hP, hD⟩ := zord (g := g) (Bs' := [bLog g go gr gz gn fr, bMem g mo qT qL it il ig mh me mx fT fL, bTown g o a pe wo tx ch jo tr dy sd f, bDR g x ta o lo go tt lt mo fo ro fl9, bPT g PT, bPL g PL]) [0, 1, 2, 5, 3, 4] rfl rfl hP hD
        have hP : va_P g.1 vwCl (List.flatten [bLog g go gr gz gn fr, bMem g mo qT qL it il ig mh me mx fT fL, bTown g o a pe wo tx ch jo tr dy sd f, bDR g x ta o lo go tt lt mo fo ro fl9, bPT g PT, bPL g PL]) H := hP
        have hD : va_D A (List.flatten [bLog g go gr gz gn fr, bMem g mo qT qL it il ig mh me mx fT fL, bTown g o a pe wo tx ch jo tr dy sd f, bDR g x ta o lo go tt lt mo fo ro fl9, bPT g PT, bPL g PL]) := hD
        obtain ⟨hP, hD⟩ := zord (g := g) (Bs' := [bDR g x ta o lo go tt lt mo fo ro fl9, bTown g o a pe wo tx ch jo tr dy sd f, bLog g go gr gz gn fr, bMem g mo qT qL it il ig mh me mx fT fL, bPT g PT, bPL g PL]) [3, 2, 0, 1, 4, 5] rfl rfl hP hD
        exact zout htab hlocks hS (Nat.le_of_ble_eq_true rfl) (Nat.le_of_ble_eq_true rfl) hce hcv hcl (f, me, mx, PT, PL) (show (E = "java/lang/IndexOutOfBoundsException" ∨ E = "java/lang/IllegalStateException") ∧ (zZ4 f) ∧ (0 ≤ me.toInt ∧ me.toInt ≤ 12) ∧ (0 ≤ mx.toInt ∧ mx.toInt ≤ 11) ∧ (zPT fT PT) ∧ (zPL fL PL) from ⟨(Or.inr hpx), (show zZ4 f from rf), (show 0 ≤ me.toInt ∧ me.toInt ≤ 12 from b_me), (show 0 ≤ mx.toInt ∧ mx.toInt ≤ 11 from b_mx), (show zPT fT PT from hPT), (show zPL fL PL from hPL)⟩) hP hD
      · skip
        have hP : va_P g.1 vwCl (List.flatten [bLog g go gr gz gn fr, bMem g mo qT qL it il ig mh me mx fT fL, bTown g o a pe wo tx ch jo tr dy sd f, bPT g PT, bPL g PL, bDR g x ta o lo go tt lt mo fo ro fl9]) H := hP
        have hD : va_D A (List.flatten [bLog g go gr gz gn fr, bMem g mo qT qL it il ig mh me mx fT fL, bTown g o a pe wo tx ch jo tr dy sd f, bPT g PT, bPL g PL, bDR g x ta o lo go tt lt mo fo ro fl9]) := hD
        refine W.widen (k := 2) (n := 12) (Nat.le_of_ble_eq_true rfl) (Nat.le_of_ble_eq_true rfl) ?_
        refine W.eq (g2 := F0 m 27 ls []) rfl ?_
        have hP : va_P g.1 vwCl (List.flatten [bLog g go gr gz gn fr, bMem g mo qT qL it il ig mh me mx fT fL, bTown g o a pe wo tx ch jo tr dy sd f, bPT g PT, bPL g PL, bDR g x ta o lo go tt lt mo fo ro fl9]) H := hP
        have hD : va_D A (List.flatten [bLog g go gr gz gn fr, bMem g mo qT qL it il ig mh me mx fT fL, bTown g o a pe wo tx ch jo tr dy sd f, bPT g PT, bPL g PL, bDR g x ta o lo go tt lt mo fo ro fl9]) := hD
        obtain ⟨hP, hD⟩ := zord (g := g) (Bs' := [bLog g go gr gz gn fr, bMem g mo qT qL it il ig mh me mx fT fL, bTown g o a pe wo tx ch jo tr dy sd f, bDR g x ta o lo go tt lt mo fo ro fl9, bPT g PT, bPL g PL]) [0, 1, 2, 5, 3, 4] rfl rfl hP hD
        refine lv_aload_n hx hb dX11_plan_27 rfl (lv_at hl 0 rfl) ?_
        refine va_get (D := g.1) (ci := 9) (v := .ref mo) (C := RX11) (T := TX11) (N := 10) hx hb hts izRX11 hown hK hP 17 rfl rfl 6 (by decide) (hts _ k551) (fun _ h9 => h9) rfl dX11_plan_28 ?_
        refine lv_aload_n hx hb dX11_plan_31 rfl (lv_at hl 0 rfl) ?_
        refine va_get (D := g.1) (ci := 9) (v := .ref o) (C := RX11) (T := TX11) (N := 10) hx hb hts izRX11 hown hK hP 17 rfl rfl 1 (by decide) (hts _ k538) (fun _ h9 => h9) rfl dX11_plan_32 ?_
        refine lv_aload_n hx hb dX11_plan_35 rfl (lv_at hl 0 rfl) ?_
        refine va_get (D := g.1) (ci := 9) (v := .ref go) (C := RX11) (T := TX11) (N := 10) hx hb hts izRX11 hown hK hP 17 rfl rfl 3 (by decide) (hts _ k542) (fun _ h9 => h9) rfl dX11_plan_36 ?_
        refine mcallV' (g := g) (q0 := 0) (ci := 4) (As := [.ref o, .ref go]) (rest := []) St hK hT hA hP hD hS hl.1 [1, 2, 0, 4, 5] [3] rfl rfl rfl (c_m_remember l g mo qT qL it il ig mh me mx fT fL o a pe wo tx ch jo tr dy sd f go gr gz gn fr PT PL b_me b_mx b_pe b_wo rf b_gz b_gn hPT hPL) (cwV 2 hts (zgL (zl4 k662 k663 k664 k378) k367) rfl rfl rfl (by decide +kernel) ⟨Nat.le_of_ble_eq_true rfl, Nat.le_of_ble_eq_true rfl⟩) rfl rfl rfl rfl (Nat.le_of_ble_eq_true rfl) dX11_plan_39 ⟨(Nat.le_of_ble_eq_true rfl), (Nat.le_of_ble_eq_true rfl)⟩ (fun u_ H locs hq9 hP hD hS => ?_)
        obtain ⟨me2_5, mx2_6, PT2_7, PL2_8⟩ := u_
        replace hq9 : (0 ≤ me2_5.toInt ∧ me2_5.toInt ≤ 12) ∧ (0 ≤ mx2_6.toInt ∧ mx2_6.toInt ≤ 11) ∧ (zPT fT PT2_7) ∧ (zPL fL PL2_8) := hq9
        have hP : va_P g.1 vwCl (List.flatten [bDR g x ta o lo go tt lt mo fo ro fl9, bMem g mo qT qL it il ig mh me2_5 mx2_6 fT fL, bTown g o a pe wo tx ch jo tr dy sd f, bLog g go gr gz gn fr, bPT g PT2_7, bPL g PL2_8]) H := hP
        have hD : va_D A (List.flatten [bDR g x ta o lo go tt lt mo fo ro fl9, bMem g mo qT qL it il ig mh me2_5 mx2_6 fT fL, bTown g o a pe wo tx ch jo tr dy sd f, bLog g go gr gz gn fr, bPT g PT2_7, bPL g PL2_8]) := hD
        refine W.widen (k := 2) (n := 12) (Nat.le_of_ble_eq_true rfl) (Nat.le_of_ble_eq_true rfl) ?_
        refine W.eq (g2 := F0 m 42 ls []) rfl ?_
        obtain ⟨hq9_0, hq9_1, hq9_2, hq9_3⟩ := hq9
        refine lv_aload_n hx hb dX11_plan_42 rfl (lv_at hl 0 rfl) ?_
        refine va_get (D := g.1) (ci := 9) (v := .ref o) (C := RX11) (T := TX11) (N := 10) hx hb hts izRX11 hown hK hP 0 rfl rfl 1 (by decide) (hts _ k538) (fun _ h9 => h9) rfl dX11_plan_43 ?_
        refine va_get (D := g.1) (ci := 7) (v := .ref (a 9)) (C := RX9) (T := TX9) (N := 19) hx hb hts izRX9 hown hK hP 4 rfl rfl 17 (by decide) (hts _ k645) (fun _ h9 => h9) rfl dX11_plan_46 ?_
        refine lv_iload_n hx hb dX11_plan_49 rfl (lv_at hl 1 rfl) ?_
        refine lv_iconst (v := 0) hx hb dX11_plan_50 (by decide) ?_
        refine va_iast hx hb hK hP hD hS 14 0 rfl rfl (zinK (a := 0) (b := 5) hq1_0.1 hq1_0.2 (by decide)) dX11_plan_51 (fun H locs hP hD hS => ?_)
        obtain ⟨f10, rf10, hP, hD⟩ : ∃ f10 : Nat → Nat → Int32, zZ4 f10 ∧ va_P g.1 vwCl (List.flatten [bDR g x ta o lo go tt lt mo fo ro fl9, bMem g mo qT qL it il ig mh me2_5 mx2_6 fT fL, bTown g o a pe wo tx ch jo tr dy sd f10, bLog g go gr gz gn fr, bPT g PT2_7, bPL g PL2_8]) H ∧ va_D A (List.flatten [bDR g x ta o lo go tt lt mo fo ro fl9, bMem g mo qT qL it il ig mh me2_5 mx2_6 fT fL, bTown g o a pe wo tx ch jo tr dy sd f10, bLog g go gr gz gn fr, bPT g PT2_7, bPL g PL2_8]) := ⟨zu f 9 (upd (f 9) ww.toNatClampNeg 0), (zZ4_u rf (by decide)), hP, hD⟩
        have hP : va_P g.1 vwCl (List.flatten [bDR g x ta o lo go tt lt mo fo ro fl9, bMem g mo qT qL it il ig mh me2_5 mx2_6 fT fL, bTown g o a pe wo tx ch jo tr dy sd f10, bLog g go gr gz gn fr, bPT g PT2_7, bPL g PL2_8]) H := hP
        have hD : va_D A (List.flatten [bDR g x ta o lo go tt lt mo fo ro fl9, bMem g mo qT qL it il ig mh me2_5 mx2_6 fT fL, bTown g o a pe wo tx ch jo tr dy sd f10, bLog g go gr gz gn fr, bPT g PT2_7, bPL g PL2_8]) := hD
        obtain ⟨hP, hD⟩ := zord (g := g) (Bs' := [bDR g x ta o lo go tt lt mo fo ro fl9, bTown g o a pe wo tx ch jo tr dy sd f10, bLog g go gr gz gn fr, bMem g mo qT qL it il ig mh me2_5 mx2_6 fT fL, bPT g PT2_7, bPL g PL2_8]) [0, 2, 3, 1, 4, 5] rfl rfl hP hD
        exact zret_v hx hb hr hlocks hS (Nat.le_of_ble_eq_true rfl) (Nat.le_of_ble_eq_true rfl) dX11_plan_52 (f10, me2_5, mx2_6, PT2_7, PL2_8) rfl (show (zZ4 f10) ∧ (0 ≤ me2_5.toInt ∧ me2_5.toInt ≤ 12) ∧ (0 ≤ mx2_6.toInt ∧ mx2_6.toInt ≤ 11) ∧ (zPT fT PT2_7) ∧ (zPL fL PL2_8) from ⟨rf10, hq9_0, hq9_1, hq9_2, hq9_3⟩) hP hD
    · skip
      have c11 : x_2.toInt = 2 := zeq cb9 rfl (by decide)
      have n12 : 2 ≤ x_2.toInt := Int.le_trans (Int.le_refl _) (Int.le_of_eq c11.symm)
      have n13 : x_2.toInt ≤ 2 := Int.le_trans (Int.le_of_eq c11) (Int.le_refl _)
      refine lv_iconst (v := 1) hx hb dX11_plan_19 (by decide) ?_
      refine lv_goto (tgt := 24) hx hb dX11_plan_20 (by decide) ?_
      refine xcallV' (g := g) (q0 := 0) (ci := 9) (As := [.int 1]) (rest := []) St hK hT hA hP hD hS hl.1 [2] [0, 1, 3, 4, 5] rfl rfl rfl (c_x_needState l hfl g x ta o lo go tt lt mo fo ro fl9 1 ) (cwV 1 hts (zgL (zl4 k656 k657 k658 k621) k651) rfl rfl rfl (by decide +kernel) ⟨Nat.le_of_ble_eq_true rfl, Nat.le_of_ble_eq_true rfl⟩) rfl rfl rfl rfl (Nat.le_of_ble_eq_true rfl) dX11_plan_24 ⟨(Nat.le_of_ble_eq_true rfl), (Nat.le_of_ble_eq_true rfl)⟩ (fun E ce q9 u9 H locs hpx hP hD hS hce hcv hcl => ?_) (fun _u H locs hq14 hP hD hS => ?_)
      · skip
        have hpx : (E = "java/lang/IllegalStateException") := hpx
        have hP : va_P g.1 vwCl (List.flatten [bLog g go gr gz gn fr, bMem g mo qT qL it il ig mh me mx fT fL, bTown g o a pe wo tx ch jo tr dy sd f, bPT g PT, bPL g PL, bDR g x ta o lo go tt lt mo fo ro fl9]) H := hP
        have hD : va_D A (List.flatten [bLog g go gr gz gn fr, bMem g mo qT qL it il ig mh me mx fT fL, bTown g o a pe wo tx ch jo tr dy sd f, bPT g PT, bPL g PL, bDR g x ta o lo go tt lt mo fo ro fl9]) := hD
        have hP : va_P g.1 vwCl (List.flatten [bLog g go gr gz gn fr, bMem g mo qT qL it il ig mh me mx fT fL, bTown g o a pe wo tx ch jo tr dy sd f, bPT g PT, bPL g PL, bDR g x ta o lo go tt lt mo fo ro fl9]) H := hP
        have hD : va_D A (List.flatten [bLog g go gr gz gn fr, bMem g mo qT qL it il ig mh me mx fT fL, bTown g o a pe wo tx ch jo tr dy sd f, bPT g PT, bPL g PL, bDR g x ta o lo go tt lt mo fo ro fl9]) := hD
        obtain ⟨hP, hD⟩ := zord (g := g) (Bs' := [bLog g go gr gz gn fr, bMem g mo qT qL it il ig mh me mx fT fL, bTown g o a pe wo tx ch jo tr dy sd f, bDR g x ta o lo go tt lt mo fo ro fl9, bPT g PT, bPL g PL]) [0, 1, 2, 5, 3, 4] rfl rfl hP hD
        have hP : va_P g.1 vwCl (List.flatten [bLog g go gr gz gn fr, bMem g mo qT qL it il ig mh me mx fT fL, bTown g o a pe wo tx ch jo tr dy sd f, bDR g x ta o lo go tt lt mo fo ro fl9, bPT g PT, bPL g PL]) H := hP
        have hD : va_D A (List.flatten [bLog g go gr gz gn fr, bMem g mo qT qL it il ig mh me mx fT fL, bTown g o a pe wo tx ch jo tr dy sd f, bDR g x ta o lo go tt lt mo fo ro fl9, bPT g PT, bPL g PL]) := hD
        obtain ⟨hP, hD⟩ := zord (g := g) (Bs' := [bDR g x ta o lo go tt lt mo fo ro fl9, bTown g o a pe wo tx ch jo tr dy sd f, bLog g go gr gz gn fr, bMem g mo qT qL it il ig mh me mx fT fL, bPT g PT, bPL g PL]) [3, 2, 0, 1, 4, 5] rfl rfl hP hD
        exact zout htab hlocks hS (Nat.le_of_ble_eq_true rfl) (Nat.le_of_ble_eq_true rfl) hce hcv hcl (f, me, mx, PT, PL) (show (E = "java/lang/IndexOutOfBoundsException" ∨ E = "java/lang/IllegalStateException") ∧ (zZ4 f) ∧ (0 ≤ me.toInt ∧ me.toInt ≤ 12) ∧ (0 ≤ mx.toInt ∧ mx.toInt ≤ 11) ∧ (zPT fT PT) ∧ (zPL fL PL) from ⟨(Or.inr hpx), (show zZ4 f from rf), (show 0 ≤ me.toInt ∧ me.toInt ≤ 12 from b_me), (show 0 ≤ mx.toInt ∧ mx.toInt ≤ 11 from b_mx), (show zPT fT PT from hPT), (show zPL fL PL from hPL)⟩) hP hD
      · skip
        have hP : va_P g.1 vwCl (List.flatten [bLog g go gr gz gn fr, bMem g mo qT qL it il ig mh me mx fT fL, bTown g o a pe wo tx ch jo tr dy sd f, bPT g PT, bPL g PL, bDR g x ta o lo go tt lt mo fo ro fl9]) H := hP
        have hD : va_D A (List.flatten [bLog g go gr gz gn fr, bMem g mo qT qL it il ig mh me mx fT fL, bTown g o a pe wo tx ch jo tr dy sd f, bPT g PT, bPL g PL, bDR g x ta o lo go tt lt mo fo ro fl9]) := hD
        refine W.widen (k := 2) (n := 12) (Nat.le_of_ble_eq_true rfl) (Nat.le_of_ble_eq_true rfl) ?_
        refine W.eq (g2 := F0 m 27 ls []) rfl ?_
        have hP : va_P g.1 vwCl (List.flatten [bLog g go gr gz gn fr, bMem g mo qT qL it il ig mh me mx fT fL, bTown g o a pe wo tx ch jo tr dy sd f, bPT g PT, bPL g PL, bDR g x ta o lo go tt lt mo fo ro fl9]) H := hP
        have hD : va_D A (List.flatten [bLog g go gr gz gn fr, bMem g mo qT qL it il ig mh me mx fT fL, bTown g o a pe wo tx ch jo tr dy sd f, bPT g PT, bPL g PL, bDR g x ta o lo go tt lt mo fo ro fl9]) := hD
        obtain ⟨hP, hD⟩ := zord (g := g) (Bs' := [bLog g go gr gz gn fr, bMem g mo qT qL it il ig mh me mx fT fL, bTown g o a pe wo tx ch jo tr dy sd f, bDR g x ta o lo go tt lt mo fo ro fl9, bPT g PT, bPL g PL]) [0, 1, 2, 5, 3, 4] rfl rfl hP hD
        refine lv_aload_n hx hb dX11_plan_27 rfl (lv_at hl 0 rfl) ?_
        refine va_get (D := g.1) (ci := 9) (v := .ref mo) (C := RX11) (T := TX11) (N := 10) hx hb hts izRX11 hown hK hP 17 rfl rfl 6 (by decide) (hts _ k551) (fun _ h9 => h9) rfl dX11_plan_28 ?_
        refine lv_aload_n hx hb dX11_plan_31 rfl (lv_at hl 0 rfl) ?_
        refine va_get (D := g.1) (ci := 9) (v := .ref o) (C := RX11) (T := TX11) (N := 10) hx hb hts izRX11 hown hK hP 17 rfl rfl 1 (by decide) (hts _ k538) (fun _ h9 => h9) rfl dX11_plan_32 ?_
        refine lv_aload_n hx hb dX11_plan_35 rfl (lv_at hl 0 rfl) ?_
        refine va_get (D := g.1) (ci := 9) (v := .ref go) (C := RX11) (T := TX11) (N := 10) hx hb hts izRX11 hown hK hP 17 rfl rfl 3 (by decide) (hts _ k542) (fun _ h9 => h9) rfl dX11_plan_36 ?_
        refine mcallV' (g := g) (q0 := 0) (ci := 4) (As := [.ref o, .ref go]) (rest := []) St hK hT hA hP hD hS hl.1 [1, 2, 0, 4, 5] [3] rfl rfl rfl (c_m_remember l g mo qT qL it il ig mh me mx fT fL o a pe wo tx ch jo tr dy sd f go gr gz gn fr PT PL b_me b_mx b_pe b_wo rf b_gz b_gn hPT hPL) (cwV 2 hts (zgL (zl4 k662 k663 k664 k378) k367) rfl rfl rfl (by decide +kernel) ⟨Nat.le_of_ble_eq_true rfl, Nat.le_of_ble_eq_true rfl⟩) rfl rfl rfl rfl (Nat.le_of_ble_eq_true rfl) dX11_plan_39 ⟨(Nat.le_of_ble_eq_true rfl), (Nat.le_of_ble_eq_true rfl)⟩ (fun u_ H locs hq19 hP hD hS => ?_)
        obtain ⟨me2_15, mx2_16, PT2_17, PL2_18⟩ := u_
        replace hq19 : (0 ≤ me2_15.toInt ∧ me2_15.toInt ≤ 12) ∧ (0 ≤ mx2_16.toInt ∧ mx2_16.toInt ≤ 11) ∧ (zPT fT PT2_17) ∧ (zPL fL PL2_18) := hq19
        have hP : va_P g.1 vwCl (List.flatten [bDR g x ta o lo go tt lt mo fo ro fl9, bMem g mo qT qL it il ig mh me2_15 mx2_16 fT fL, bTown g o a pe wo tx ch jo tr dy sd f, bLog g go gr gz gn fr, bPT g PT2_17, bPL g PL2_18]) H := hP
        have hD : va_D A (List.flatten [bDR g x ta o lo go tt lt mo fo ro fl9, bMem g mo qT qL it il ig mh me2_15 mx2_16 fT fL, bTown g o a pe wo tx ch jo tr dy sd f, bLog g go gr gz gn fr, bPT g PT2_17, bPL g PL2_18]) := hD
        refine W.widen (k := 2) (n := 12) (Nat.le_of_ble_eq_true rfl) (Nat.le_of_ble_eq_true rfl) ?_
        refine W.eq (g2 := F0 m 42 ls []) rfl ?_
        obtain ⟨hq19_0, hq19_1, hq19_2, hq19_3⟩ := hq19
        refine lv_aload_n hx hb dX11_plan_42 rfl (lv_at hl 0 rfl) ?_
        refine va_get (D := g.1) (ci := 9) (v := .ref o) (C := RX11) (T := TX11) (N := 10) hx hb hts izRX11 hown hK hP 0 rfl rfl 1 (by decide) (hts _ k538) (fun _ h9 => h9) rfl dX11_plan_43 ?_
        refine va_get (D := g.1) (ci := 7) (v := .ref (a 9)) (C := RX9) (T := TX9) (N := 19) hx hb hts izRX9 hown hK hP 4 rfl rfl 17 (by decide) (hts _ k645) (fun _ h9 => h9) rfl dX11_plan_46 ?_
        refine lv_iload_n hx hb dX11_plan_49 rfl (lv_at hl 1 rfl) ?_
        refine lv_iconst (v := 0) hx hb dX11_plan_50 (by decide) ?_
        refine va_iast hx hb hK hP hD hS 14 0 rfl rfl (zinK (a := 0) (b := 5) hq1_0.1 hq1_0.2 (by decide)) dX11_plan_51 (fun H locs hP hD hS => ?_)
        obtain ⟨f20, rf20, hP, hD⟩ : ∃ f20 : Nat → Nat → Int32, zZ4 f20 ∧ va_P g.1 vwCl (List.flatten [bDR g x ta o lo go tt lt mo fo ro fl9, bMem g mo qT qL it il ig mh me2_15 mx2_16 fT fL, bTown g o a pe wo tx ch jo tr dy sd f20, bLog g go gr gz gn fr, bPT g PT2_17, bPL g PL2_18]) H ∧ va_D A (List.flatten [bDR g x ta o lo go tt lt mo fo ro fl9, bMem g mo qT qL it il ig mh me2_15 mx2_16 fT fL, bTown g o a pe wo tx ch jo tr dy sd f20, bLog g go gr gz gn fr, bPT g PT2_17, bPL g PL2_18]) := ⟨zu f 9 (upd (f 9) ww.toNatClampNeg 0), (zZ4_u rf (by decide)), hP, hD⟩
        have hP : va_P g.1 vwCl (List.flatten [bDR g x ta o lo go tt lt mo fo ro fl9, bMem g mo qT qL it il ig mh me2_15 mx2_16 fT fL, bTown g o a pe wo tx ch jo tr dy sd f20, bLog g go gr gz gn fr, bPT g PT2_17, bPL g PL2_18]) H := hP
        have hD : va_D A (List.flatten [bDR g x ta o lo go tt lt mo fo ro fl9, bMem g mo qT qL it il ig mh me2_15 mx2_16 fT fL, bTown g o a pe wo tx ch jo tr dy sd f20, bLog g go gr gz gn fr, bPT g PT2_17, bPL g PL2_18]) := hD
        obtain ⟨hP, hD⟩ := zord (g := g) (Bs' := [bDR g x ta o lo go tt lt mo fo ro fl9, bTown g o a pe wo tx ch jo tr dy sd f20, bLog g go gr gz gn fr, bMem g mo qT qL it il ig mh me2_15 mx2_16 fT fL, bPT g PT2_17, bPL g PL2_18]) [0, 2, 3, 1, 4, 5] rfl rfl hP hD
        exact zret_v hx hb hr hlocks hS (Nat.le_of_ble_eq_true rfl) (Nat.le_of_ble_eq_true rfl) dX11_plan_52 (f20, me2_15, mx2_16, PT2_17, PL2_18) rfl (show (zZ4 f20) ∧ (0 ≤ me2_15.toInt ∧ me2_15.toInt ≤ 12) ∧ (0 ≤ mx2_16.toInt ∧ mx2_16.toInt ≤ 11) ∧ (zPT fT PT2_17) ∧ (zPL fL PL2_18) from ⟨rf20, hq19_0, hq19_1, hq19_2, hq19_3⟩) hP hD
