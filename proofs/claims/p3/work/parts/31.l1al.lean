set_option maxRecDepth 100000 in
set_option maxHeartbeats 4000000 in
theorem l_dry (l : Launch) (hfl : l.stackTraces = false) (g : zG) (x : Nat) (ta : Nat) (o : Nat) (lo : Nat) (go : Nat) (tt : Nat) (lt : Nat) (mo : Nat) (fo : Nat) (ro : Nat) (fl9 : Int32) (a : Nat → Nat) (pe : Int32) (wo : Int32) (tx : Int32) (ch : Int32) (jo : Int32) (tr : Int32) (dy : Int32) (sd : Int32) (f : Nat → Nat → Int32) (gr : Nat) (gz : Int32) (gn : Int32) (fr : Nat → Int32) (qT : Nat) (qL : Nat) (it : Nat) (il : Nat) (ig : Nat) (mh : Int32) (me : Int32) (mx : Int32) (fT : Nat → Option Nat) (fL : Nat → Option Nat) (PT : Nat → zTR) (PL : Nat → zLR) (oa : Nat) (fz : Nat → Int64) (pp : Int32) (is : Int32) (b_pe : 0 ≤ pe.toInt ∧ pe.toInt ≤ 8) (b_wo : 0 ≤ wo.toInt ∧ wo.toInt ≤ 6) (rf : zZ4 f) (b_gz : 0 ≤ gz.toInt ∧ gz.toInt ≤ 60) (b_gn : 0 ≤ gn.toInt ∧ gn.toInt ≤ 59) (b_me : 0 ≤ me.toInt ∧ me.toInt ≤ 12) (b_mx : 0 ≤ mx.toInt ∧ mx.toInt ≤ 11) (hPT : zPT fT PT) (hPL : zPL fL PL) (his : is = 0 ∨ is = 1) : zX' g l yL_dry (Cond.codeWith yL_dry cL_dry 5 (some .int) [(0, 17, 20, 24)] :: zB) ({ frames := 8, cells := 1, slots := 6, locals := 126 } : Room) [.ref x, .int pp, .int is, .ref oa] [bDR g x ta o lo go tt lt mo fo ro fl9, bTown g o a pe wo tx ch jo tr dy sd f, bLog g go gr gz gn fr, bMem g mo qT qL it il ig mh me mx fT fL, bPT g PT, bPL g PL, bOut g oa fz] (fun u : (Nat → Nat → Int32) × Int32 × Int32 × (Nat → zTR) × (Nat → zLR) × (Nat → Int64) × Int32 => (fun (f2 : Nat → Nat → Int32) (me2 : Int32) (mx2 : Int32) (PT2 : Nat → zTR) (PL2 : Nat → zLR) (fz2 : Nat → Int64) (q : Int32) => some (.int q)) (u.1) (u.2.1) (u.2.2.1) (u.2.2.2.1) (u.2.2.2.2.1) (u.2.2.2.2.2.1) (u.2.2.2.2.2.2)) (fun u : (Nat → Nat → Int32) × Int32 × Int32 × (Nat → zTR) × (Nat → zLR) × (Nat → Int64) × Int32 => (fun (f2 : Nat → Nat → Int32) (me2 : Int32) (mx2 : Int32) (PT2 : Nat → zTR) (PL2 : Nat → zLR) (fz2 : Nat → Int64) (q : Int32) => (zZ4 f2) ∧ (0 ≤ me2.toInt ∧ me2.toInt ≤ 12) ∧ (0 ≤ mx2.toInt ∧ mx2.toInt ≤ 11) ∧ (zPT fT PT2) ∧ (zPL fL PL2)) (u.1) (u.2.1) (u.2.2.1) (u.2.2.2.1) (u.2.2.2.2.1) (u.2.2.2.2.2.1) (u.2.2.2.2.2.2)) (fun u : (Nat → Nat → Int32) × Int32 × Int32 × (Nat → zTR) × (Nat → zLR) × (Nat → Int64) × Int32 => (fun (f2 : Nat → Nat → Int32) (me2 : Int32) (mx2 : Int32) (PT2 : Nat → zTR) (PL2 : Nat → zLR) (fz2 : Nat → Int64) (q : Int32) => [bDR g x ta o lo go tt lt mo fo ro fl9, bTown g o a pe wo tx ch jo tr dy sd f2, bLog g go gr gz gn fr, bMem g mo qT qL it il ig mh me2 mx2 fT fL, bPT g PT2, bPL g PL2, bOut g oa fz2]) (u.1) (u.2.1) (u.2.2.1) (u.2.2.2.1) (u.2.2.2.2.1) (u.2.2.2.2.2.1) (u.2.2.2.2.2.2)) zNo zN0 := by
  refine zX'.ofH (cc := cL_dry) (maxL := 5) (rt := (some .int)) (by decide) rfl (Nat.le_of_ble_eq_true rfl) ?_
  intro p e s m args below meth c A ls St hr hlocks htab hin hK hT hA hP hD hS hl
  obtain ⟨hx, hb, hml, hown, hts⟩ := id St
  have hl : lv_has ls 5 [(0, .ref x), (1, .int pp), (2, .int is), (3, .ref oa)] := hl
  refine lv_aload_n hx hb dL_dry_0 rfl (lv_at hl 3 rfl) ?_
  refine lv_iconst (v := 0) hx hb dL_dry_1 (by decide) ?_
  refine lv_aload_n hx hb dL_dry_2 rfl (lv_at hl 0 rfl) ?_
  refine lv_iload_n hx hb dL_dry_3 rfl (lv_at hl 1 rfl) ?_
  refine lv_iload_n hx hb dL_dry_4 rfl (lv_at hl 2 rfl) ?_
  refine xcallV' (g := g) (q0 := 0) (ci := 9) (As := [.int pp, .int is]) (rest := [.int 0, .ref oa]) St hK hT hA hP hD hS hl.1 [0, 1, 2, 3, 4, 5] [6] rfl rfl rfl (c_x_dry l hfl g x ta o lo go tt lt mo fo ro fl9 a pe wo tx ch jo tr dy sd f gr gz gn fr qT qL it il ig mh me mx fT fL PT PL pp is b_pe b_wo rf b_gz b_gn b_me b_mx hPT hPL his) (cwV 2 hts (zgL (zl4 k1203 k1204 k1205 k621) k681) rfl rfl rfl (by decide +kernel) ⟨Nat.le_of_ble_eq_true rfl, Nat.le_of_ble_eq_true rfl⟩) rfl rfl rfl rfl (Nat.le_of_ble_eq_true rfl) dL_dry_5 ⟨(Nat.le_of_ble_eq_true rfl), (Nat.le_of_ble_eq_true rfl)⟩ (fun E ce q9 u9 H locs hpx hP hD hS hce hcv hcl => ?_) (fun u_ H locs hq7 hP hD hS => ?_)
  · skip
    obtain ⟨f2_8, me2_9, mx2_10, PT2_11, PL2_12⟩ := u9
    have hpx : (E = "java/lang/IndexOutOfBoundsException") ∧ (zZ4 f2_8) ∧ (0 ≤ me2_9.toInt ∧ me2_9.toInt ≤ 12) ∧ (0 ≤ mx2_10.toInt ∧ mx2_10.toInt ≤ 11) ∧ (zPT fT PT2_11) ∧ (zPL fL PL2_12) := hpx
    have hP : va_P g.1 vwCl (List.flatten [bOut g oa fz, bDR g x ta o lo go tt lt mo fo ro fl9, bTown g o a pe wo tx ch jo tr dy sd f2_8, bLog g go gr gz gn fr, bMem g mo qT qL it il ig mh me2_9 mx2_10 fT fL, bPT g PT2_11, bPL g PL2_12]) H := hP
    have hD : va_D A (List.flatten [bOut g oa fz, bDR g x ta o lo go tt lt mo fo ro fl9, bTown g o a pe wo tx ch jo tr dy sd f2_8, bLog g go gr gz gn fr, bMem g mo qT qL it il ig mh me2_9 mx2_10 fT fL, bPT g PT2_11, bPL g PL2_12]) := hD
    obtain ⟨hE9, rf2_8, hy13, hy14, hy15, hy16⟩ := hpx
    obtain rfl := hE9
    refine vx_catch hown [] ⟨0, 17, 20, 24⟩ [] (by rw [htab]; rfl) (fun z hz => absurd hz List.not_mem_nil) (by decide) (by decide) (hts _ k1164) ((hT.1.2.2.2.2.1 _ (List.mem_of_getElem? (i := 0) rfl)).use) hce hcv hcl ?_
    refine W.widen (k := 1) (n := 6) (Nat.le_of_ble_eq_true rfl) (Nat.le_of_ble_eq_true rfl) ?_
    refine lv_astore (lv' := [(4, .ref q9), (0, .ref x), (1, .int pp), (2, .int is), (3, .ref oa)]) hx hb dL_dry_20 hl (by decide) rfl (fun ls hl => ?_)
    refine lv_iconst (v := 1) hx hb dL_dry_22 (by decide) ?_
    have hP : va_P g.1 vwCl (List.flatten [bOut g oa fz, bDR g x ta o lo go tt lt mo fo ro fl9, bTown g o a pe wo tx ch jo tr dy sd f2_8, bLog g go gr gz gn fr, bMem g mo qT qL it il ig mh me2_9 mx2_10 fT fL, bPT g PT2_11, bPL g PL2_12]) H := hP
    have hD : va_D A (List.flatten [bOut g oa fz, bDR g x ta o lo go tt lt mo fo ro fl9, bTown g o a pe wo tx ch jo tr dy sd f2_8, bLog g go gr gz gn fr, bMem g mo qT qL it il ig mh me2_9 mx2_10 fT fL, bPT g PT2_11, bPL g PL2_12]) := hD
    obtain ⟨hP, hD⟩ := zord (g := g) (Bs' := [bDR g x ta o lo go tt lt mo fo ro fl9, bTown g o a pe wo tx ch jo tr dy sd f2_8, bLog g go gr gz gn fr, bMem g mo qT qL it il ig mh me2_9 mx2_10 fT fL, bPT g PT2_11, bPL g PL2_12, bOut g oa fz]) [1, 2, 3, 4, 5, 6, 0] rfl rfl hP hD
    exact zret_i hx hb hr hlocks hS (Nat.le_of_ble_eq_true rfl) (Nat.le_of_ble_eq_true rfl) dL_dry_23 (f2_8, me2_9, mx2_10, PT2_11, PL2_12, fz, (1 : Int32)) rfl (show (zZ4 f2_8) ∧ (0 ≤ me2_9.toInt ∧ me2_9.toInt ≤ 12) ∧ (0 ≤ mx2_10.toInt ∧ mx2_10.toInt ≤ 11) ∧ (zPT fT PT2_11) ∧ (zPL fL PL2_12) from ⟨rf2_8, hy13, hy14, hy15, hy16⟩) hP hD
  · skip
    obtain ⟨f2_1, me2_2, mx2_3, PT2_4, PL2_5, q_6⟩ := u_
    replace hq7 : (zZ4 f2_1) ∧ (0 ≤ me2_2.toInt ∧ me2_2.toInt ≤ 12) ∧ (0 ≤ mx2_3.toInt ∧ mx2_3.toInt ≤ 11) ∧ (zPT fT PT2_4) ∧ (zPL fL PL2_5) ∧ (q_6 = 0 ∨ q_6 = 1) := hq7
    have hP : va_P g.1 vwCl (List.flatten [bOut g oa fz, bDR g x ta o lo go tt lt mo fo ro fl9, bTown g o a pe wo tx ch jo tr dy sd f2_1, bLog g go gr gz gn fr, bMem g mo qT qL it il ig mh me2_2 mx2_3 fT fL, bPT g PT2_4, bPL g PL2_5]) H := hP
    have hD : va_D A (List.flatten [bOut g oa fz, bDR g x ta o lo go tt lt mo fo ro fl9, bTown g o a pe wo tx ch jo tr dy sd f2_1, bLog g go gr gz gn fr, bMem g mo qT qL it il ig mh me2_2 mx2_3 fT fL, bPT g PT2_4, bPL g PL2_5]) := hD
    refine W.widen (k := 1) (n := 6) (Nat.le_of_ble_eq_true rfl) (Nat.le_of_ble_eq_true rfl) ?_
    refine W.eq (g2 := F0 m 8 ls [.int q_6, .int 0, .ref oa]) rfl ?_
    obtain ⟨rf2_1, hq7_1, hq7_2, hq7_3, hq7_4, hq7_5⟩ := hq7
    rcases hq7_5 with rfl | rfl
    · skip
      refine lv_if_eq (tgt := 15) hx hb dL_dry_8 (by decide) (fun _ => ?_) (fun c17 => absurd (by decide) c17)
      refine lv_lconst (v := 0) hx hb dL_dry_15 (by decide) ?_
      refine va_last hx hb hK hP hD hS 0 2 rfl rfl (zin rfl) dL_dry_16 (fun H locs hP hD hS => ?_)
      have hP : va_P g.1 vwCl (List.flatten [[(oa, .inl (g.2 2, 1, .inr (.inl (vp_updL fz 0 0))))], bDR g x ta o lo go tt lt mo fo ro fl9, bTown g o a pe wo tx ch jo tr dy sd f2_1, bLog g go gr gz gn fr, bMem g mo qT qL it il ig mh me2_2 mx2_3 fT fL, bPT g PT2_4, bPL g PL2_5]) H := hP
      have hD : va_D A (List.flatten [[(oa, .inl (g.2 2, 1, .inr (.inl (vp_updL fz 0 0))))], bDR g x ta o lo go tt lt mo fo ro fl9, bTown g o a pe wo tx ch jo tr dy sd f2_1, bLog g go gr gz gn fr, bMem g mo qT qL it il ig mh me2_2 mx2_3 fT fL, bPT g PT2_4, bPL g PL2_5]) := hD
      refine lv_goto (tgt := 24) hx hb dL_dry_17 (by decide) ?_
      refine lv_iconst (v := 0) hx hb dL_dry_24 (by decide) ?_
      have hP : va_P g.1 vwCl (List.flatten [bOut g oa (vp_updL fz 0 0), bDR g x ta o lo go tt lt mo fo ro fl9, bTown g o a pe wo tx ch jo tr dy sd f2_1, bLog g go gr gz gn fr, bMem g mo qT qL it il ig mh me2_2 mx2_3 fT fL, bPT g PT2_4, bPL g PL2_5]) H := hP
      have hD : va_D A (List.flatten [bOut g oa (vp_updL fz 0 0), bDR g x ta o lo go tt lt mo fo ro fl9, bTown g o a pe wo tx ch jo tr dy sd f2_1, bLog g go gr gz gn fr, bMem g mo qT qL it il ig mh me2_2 mx2_3 fT fL, bPT g PT2_4, bPL g PL2_5]) := hD
      obtain ⟨hP, hD⟩ := zord (g := g) (Bs' := [bDR g x ta o lo go tt lt mo fo ro fl9, bTown g o a pe wo tx ch jo tr dy sd f2_1, bLog g go gr gz gn fr, bMem g mo qT qL it il ig mh me2_2 mx2_3 fT fL, bPT g PT2_4, bPL g PL2_5, bOut g oa (vp_updL fz 0 0)]) [1, 2, 3, 4, 5, 6, 0] rfl rfl hP hD
      exact zret_i hx hb hr hlocks hS (Nat.le_of_ble_eq_true rfl) (Nat.le_of_ble_eq_true rfl) dL_dry_25 (f2_1, me2_2, mx2_3, PT2_4, PL2_5, vp_updL fz 0 0, (0 : Int32)) rfl (show (zZ4 f2_1) ∧ (0 ≤ me2_2.toInt ∧ me2_2.toInt ≤ 12) ∧ (0 ≤ mx2_3.toInt ∧ mx2_3.toInt ≤ 11) ∧ (zPT fT PT2_4) ∧ (zPL fL PL2_5) from ⟨rf2_1, hq7_1, hq7_2, hq7_3, hq7_4⟩) hP hD
    · skip
      refine lv_if_eq (tgt := 15) hx hb dL_dry_8 (by decide) (fun c18 => absurd c18 (by decide)) (fun _ => ?_)
      refine lv_lconst (v := 1) hx hb dL_dry_11 (by decide) ?_
      refine lv_goto (tgt := 16) hx hb dL_dry_12 (by decide) ?_
      refine va_last hx hb hK hP hD hS 0 2 rfl rfl (zin rfl) dL_dry_16 (fun H locs hP hD hS => ?_)
      have hP : va_P g.1 vwCl (List.flatten [[(oa, .inl (g.2 2, 1, .inr (.inl (vp_updL fz 0 1))))], bDR g x ta o lo go tt lt mo fo ro fl9, bTown g o a pe wo tx ch jo tr dy sd f2_1, bLog g go gr gz gn fr, bMem g mo qT qL it il ig mh me2_2 mx2_3 fT fL, bPT g PT2_4, bPL g PL2_5]) H := hP
      have hD : va_D A (List.flatten [[(oa, .inl (g.2 2, 1, .inr (.inl (vp_updL fz 0 1))))], bDR g x ta o lo go tt lt mo fo ro fl9, bTown g o a pe wo tx ch jo tr dy sd f2_1, bLog g go gr gz gn fr, bMem g mo qT qL it il ig mh me2_2 mx2_3 fT fL, bPT g PT2_4, bPL g PL2_5]) := hD
      refine lv_goto (tgt := 24) hx hb dL_dry_17 (by decide) ?_
      refine lv_iconst (v := 0) hx hb dL_dry_24 (by decide) ?_
      have hP : va_P g.1 vwCl (List.flatten [bOut g oa (vp_updL fz 0 1), bDR g x ta o lo go tt lt mo fo ro fl9, bTown g o a pe wo tx ch jo tr dy sd f2_1, bLog g go gr gz gn fr, bMem g mo qT qL it il ig mh me2_2 mx2_3 fT fL, bPT g PT2_4, bPL g PL2_5]) H := hP
      have hD : va_D A (List.flatten [bOut g oa (vp_updL fz 0 1), bDR g x ta o lo go tt lt mo fo ro fl9, bTown g o a pe wo tx ch jo tr dy sd f2_1, bLog g go gr gz gn fr, bMem g mo qT qL it il ig mh me2_2 mx2_3 fT fL, bPT g PT2_4, bPL g PL2_5]) := hD
      obtain ⟨hP, hD⟩ := zord (g := g) (Bs' := [bDR g x ta o lo go tt lt mo fo ro fl9, bTown g o a pe wo tx ch jo tr dy sd f2_1, bLog g go gr gz gn fr, bMem g mo qT qL it il ig mh me2_2 mx2_3 fT fL, bPT g PT2_4, bPL g PL2_5, bOut g oa (vp_updL fz 0 1)]) [1, 2, 3, 4, 5, 6, 0] rfl rfl hP hD
      exact zret_i hx hb hr hlocks hS (Nat.le_of_ble_eq_true rfl) (Nat.le_of_ble_eq_true rfl) dL_dry_25 (f2_1, me2_2, mx2_3, PT2_4, PL2_5, vp_updL fz 0 1, (0 : Int32)) rfl (show (zZ4 f2_1) ∧ (0 ≤ me2_2.toInt ∧ me2_2.toInt ≤ 12) ∧ (0 ≤ mx2_3.toInt ∧ mx2_3.toInt ≤ 11) ∧ (zPT fT PT2_4) ∧ (zPL fL PL2_5) from ⟨rf2_1, hq7_1, hq7_2, hq7_3, hq7_4⟩) hP hD
