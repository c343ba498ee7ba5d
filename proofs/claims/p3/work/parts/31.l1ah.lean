set_option maxRecDepth 100000 in
set_option maxHeartbeats 4000000 in
theorem l_plan (l : Launch) (hfl : l.stackTraces = false) (g : zG) (x : Nat) (ta : Nat) (o : Nat) (lo : Nat) (go : Nat) (tt : Nat) (lt : Nat) (mo : Nat) (fo : Nat) (ro : Nat) (fl9 : Int32) (a : Nat → Nat) (pe : Int32) (wo : Int32) (tx : Int32) (ch : Int32) (jo : Int32) (tr : Int32) (dy : Int32) (sd : Int32) (f : Nat → Nat → Int32) (gr : Nat) (gz : Int32) (gn : Int32) (fr : Nat → Int32) (qT : Nat) (qL : Nat) (it : Nat) (il : Nat) (ig : Nat) (mh : Int32) (me : Int32) (mx : Int32) (fT : Nat → Option Nat) (fL : Nat → Option Nat) (PT : Nat → zTR) (PL : Nat → zLR) (ww : Int32) (b_pe : 0 ≤ pe.toInt ∧ pe.toInt ≤ 8) (b_wo : 0 ≤ wo.toInt ∧ wo.toInt ≤ 6) (rf : zZ4 f) (b_gz : 0 ≤ gz.toInt ∧ gz.toInt ≤ 60) (b_gn : 0 ≤ gn.toInt ∧ gn.toInt ≤ 59) (b_me : 0 ≤ me.toInt ∧ me.toInt ≤ 12) (b_mx : 0 ≤ mx.toInt ∧ mx.toInt ≤ 11) (hPT : zPT fT PT) (hPL : zPL fL PL) : zX' g l yL_plan (Cond.codeWith yL_plan cL_plan 3 (some .int) [(0, 5, 8, 24), (0, 5, 11, 38)] :: zB) ({ frames := 8, cells := 2, slots := 12, locals := 124 } : Room) [.ref x, .int ww] [bDR g x ta o lo go tt lt mo fo ro fl9, bTown g o a pe wo tx ch jo tr dy sd f, bLog g go gr gz gn fr, bMem g mo qT qL it il ig mh me mx fT fL, bPT g PT, bPL g PL] (fun u : (Nat → Nat → Int32) × Int32 × Int32 × (Nat → zTR) × (Nat → zLR) × Int32 => (fun (f2 : Nat → Nat → Int32) (me2 : Int32) (mx2 : Int32) (PT2 : Nat → zTR) (PL2 : Nat → zLR) (q : Int32) => some (.int q)) (u.1) (u.2.1) (u.2.2.1) (u.2.2.2.1) (u.2.2.2.2.1) (u.2.2.2.2.2)) (fun u : (Nat → Nat → Int32) × Int32 × Int32 × (Nat → zTR) × (Nat → zLR) × Int32 => (fun (f2 : Nat → Nat → Int32) (me2 : Int32) (mx2 : Int32) (PT2 : Nat → zTR) (PL2 : Nat → zLR) (q : Int32) => (zZ4 f2) ∧ (0 ≤ me2.toInt ∧ me2.toInt ≤ 12) ∧ (0 ≤ mx2.toInt ∧ mx2.toInt ≤ 11) ∧ (zPT fT PT2) ∧ (zPL fL PL2)) (u.1) (u.2.1) (u.2.2.1) (u.2.2.2.1) (u.2.2.2.2.1) (u.2.2.2.2.2)) (fun u : (Nat → Nat → Int32) × Int32 × Int32 × (Nat → zTR) × (Nat → zLR) × Int32 => (fun (f2 : Nat → Nat → Int32) (me2 : Int32) (mx2 : Int32) (PT2 : Nat → zTR) (PL2 : Nat → zLR) (q : Int32) => [bDR g x ta o lo go tt lt mo fo ro fl9, bTown g o a pe wo tx ch jo tr dy sd f2, bLog g go gr gz gn fr, bMem g mo qT qL it il ig mh me2 mx2 fT fL, bPT g PT2, bPL g PL2]) (u.1) (u.2.1) (u.2.2.1) (u.2.2.2.1) (u.2.2.2.2.1) (u.2.2.2.2.2)) zNo zN0 := by
  refine zX'.ofH (cc := cL_plan) (maxL := 3) (rt := (some .int)) (by decide) rfl (Nat.le_of_ble_eq_true rfl) ?_
  intro p e s m args below meth c A ls St hr hlocks htab hin hK hT hA hP hD hS hl
  obtain ⟨hx, hb, hml, hown, hts⟩ := id St
  have hl : lv_has ls 3 [(0, .ref x), (1, .int ww)] := hl
  refine lv_aload_n hx hb dL_plan_0 rfl (lv_at hl 0 rfl) ?_
  refine lv_iload_n hx hb dL_plan_1 rfl (lv_at hl 1 rfl) ?_
  refine xcallV' (g := g) (q0 := 0) (ci := 9) (As := [.int ww]) (rest := []) St hK hT hA hP hD hS hl.1 [0, 1, 2, 3, 4, 5] [] rfl rfl rfl (c_x_plan l hfl g x ta o lo go tt lt mo fo ro fl9 a pe wo tx ch jo tr dy sd f gr gz gn fr qT qL it il ig mh me mx fT fL PT PL ww b_pe b_wo rf b_gz b_gn b_me b_mx hPT hPL) (cwV 1 hts (zgL (zl4 k1187 k1188 k1189 k621) k673) rfl rfl rfl (by decide +kernel) ⟨Nat.le_of_ble_eq_true rfl, Nat.le_of_ble_eq_true rfl⟩) rfl rfl rfl rfl (Nat.le_of_ble_eq_true rfl) dL_plan_2 ⟨(Nat.le_of_ble_eq_true rfl), (Nat.le_of_ble_eq_true rfl)⟩ (fun E ce q9 u9 H locs hpx hP hD hS hce hcv hcl => ?_) (fun u_ H locs hq6 hP hD hS => ?_)
  · skip
    obtain ⟨f2_7, me2_8, mx2_9, PT2_10, PL2_11⟩ := u9
    have hpx : (E = "java/lang/IndexOutOfBoundsException" ∨ E = "java/lang/IllegalStateException") ∧ (zZ4 f2_7) ∧ (0 ≤ me2_8.toInt ∧ me2_8.toInt ≤ 12) ∧ (0 ≤ mx2_9.toInt ∧ mx2_9.toInt ≤ 11) ∧ (zPT fT PT2_10) ∧ (zPL fL PL2_11) := hpx
    have hP : va_P g.1 vwCl (List.flatten [bDR g x ta o lo go tt lt mo fo ro fl9, bTown g o a pe wo tx ch jo tr dy sd f2_7, bLog g go gr gz gn fr, bMem g mo qT qL it il ig mh me2_8 mx2_9 fT fL, bPT g PT2_10, bPL g PL2_11]) H := hP
    have hD : va_D A (List.flatten [bDR g x ta o lo go tt lt mo fo ro fl9, bTown g o a pe wo tx ch jo tr dy sd f2_7, bLog g go gr gz gn fr, bMem g mo qT qL it il ig mh me2_8 mx2_9 fT fL, bPT g PT2_10, bPL g PL2_11]) := hD
    obtain ⟨hE9, rf2_7, hy12, hy13, hy14, hy15⟩ := hpx
    rcases hE9 with rfl | rfl
    · skip
      refine vx_catch hown [] ⟨0, 5, 8, 24⟩ [⟨0, 5, 11, 38⟩] (by rw [htab]; rfl) (fun z hz => absurd hz List.not_mem_nil) (by decide) (by decide) (hts _ k1164) ((hT.1.2.2.2.2.1 _ (List.mem_of_getElem? (i := 0) rfl)).use) hce hcv hcl ?_
      refine W.widen (k := 2) (n := 12) (Nat.le_of_ble_eq_true rfl) (Nat.le_of_ble_eq_true rfl) ?_
      refine lv_astore_n (lv' := [(2, .ref q9), (0, .ref x), (1, .int ww)]) hx hb dL_plan_8 rfl hl (by decide) rfl (fun ls hl => ?_)
      refine lv_iconst (v := 1) hx hb dL_plan_9 (by decide) ?_
      have hP : va_P g.1 vwCl (List.flatten [bDR g x ta o lo go tt lt mo fo ro fl9, bTown g o a pe wo tx ch jo tr dy sd f2_7, bLog g go gr gz gn fr, bMem g mo qT qL it il ig mh me2_8 mx2_9 fT fL, bPT g PT2_10, bPL g PL2_11]) H := hP
      have hD : va_D A (List.flatten [bDR g x ta o lo go tt lt mo fo ro fl9, bTown g o a pe wo tx ch jo tr dy sd f2_7, bLog g go gr gz gn fr, bMem g mo qT qL it il ig mh me2_8 mx2_9 fT fL, bPT g PT2_10, bPL g PL2_11]) := hD
      exact zret_i hx hb hr hlocks hS (Nat.le_of_ble_eq_true rfl) (Nat.le_of_ble_eq_true rfl) dL_plan_10 (f2_7, me2_8, mx2_9, PT2_10, PL2_11, (1 : Int32)) rfl (show (zZ4 f2_7) ∧ (0 ≤ me2_8.toInt ∧ me2_8.toInt ≤ 12) ∧ (0 ≤ mx2_9.toInt ∧ mx2_9.toInt ≤ 11) ∧ (zPT fT PT2_10) ∧ (zPL fL PL2_11) from ⟨rf2_7, hy12, hy13, hy14, hy15⟩) hP hD
    · skip
      refine vx_catch hown [⟨0, 5, 8, 24⟩] ⟨0, 5, 11, 38⟩ [] (by rw [htab]; rfl) (fun z hz => by
            rcases List.mem_cons.mp hz with rfl | hz; · exact Or.inr ⟨by decide, "java/lang/IndexOutOfBoundsException", hts _ k1164, hT.1.2.2.2.2.2.1 _ (List.mem_of_getElem? (i := 8) rfl)⟩
            cases hz) (by decide) (by decide) (hts _ k1178) ((hT.1.2.2.2.2.1 _ (List.mem_of_getElem? (i := 2) rfl)).use) hce hcv hcl ?_
      refine W.widen (k := 2) (n := 12) (Nat.le_of_ble_eq_true rfl) (Nat.le_of_ble_eq_true rfl) ?_
      refine lv_astore_n (lv' := [(2, .ref q9), (0, .ref x), (1, .int ww)]) hx hb dL_plan_11 rfl hl (by decide) rfl (fun ls hl => ?_)
      refine lv_iconst (v := 2) hx hb dL_plan_12 (by decide) ?_
      have hP : va_P g.1 vwCl (List.flatten [bDR g x ta o lo go tt lt mo fo ro fl9, bTown g o a pe wo tx ch jo tr dy sd f2_7, bLog g go gr gz gn fr, bMem g mo qT qL it il ig mh me2_8 mx2_9 fT fL, bPT g PT2_10, bPL g PL2_11]) H := hP
      have hD : va_D A (List.flatten [bDR g x ta o lo go tt lt mo fo ro fl9, bTown g o a pe wo tx ch jo tr dy sd f2_7, bLog g go gr gz gn fr, bMem g mo qT qL it il ig mh me2_8 mx2_9 fT fL, bPT g PT2_10, bPL g PL2_11]) := hD
      exact zret_i hx hb hr hlocks hS (Nat.le_of_ble_eq_true rfl) (Nat.le_of_ble_eq_true rfl) dL_plan_13 (f2_7, me2_8, mx2_9, PT2_10, PL2_11, (2 : Int32)) rfl (show (zZ4 f2_7) ∧ (0 ≤ me2_8.toInt ∧ me2_8.toInt ≤ 12) ∧ (0 ≤ mx2_9.toInt ∧ mx2_9.toInt ≤ 11) ∧ (zPT fT PT2_10) ∧ (zPL fL PL2_11) from ⟨rf2_7, hy12, hy13, hy14, hy15⟩) hP hD
  · skip
    obtain ⟨f2_1, me2_2, mx2_3, PT2_4, PL2_5⟩ := u_
    replace hq6 : (zZ4 f2_1) ∧ (0 ≤ me2_2.toInt ∧ me2_2.toInt ≤ 12) ∧ (0 ≤ mx2_3.toInt ∧ mx2_3.toInt ≤ 11) ∧ (zPT fT PT2_4) ∧ (zPL fL PL2_5) := hq6
    have hP : va_P g.1 vwCl (List.flatten [bDR g x ta o lo go tt lt mo fo ro fl9, bTown g o a pe wo tx ch jo tr dy sd f2_1, bLog g go gr gz gn fr, bMem g mo qT qL it il ig mh me2_2 mx2_3 fT fL, bPT g PT2_4, bPL g PL2_5]) H := hP
    have hD : va_D A (List.flatten [bDR g x ta o lo go tt lt mo fo ro fl9, bTown g o a pe wo tx ch jo tr dy sd f2_1, bLog g go gr gz gn fr, bMem g mo qT qL it il ig mh me2_2 mx2_3 fT fL, bPT g PT2_4, bPL g PL2_5]) := hD
    refine W.widen (k := 2) (n := 12) (Nat.le_of_ble_eq_true rfl) (Nat.le_of_ble_eq_true rfl) ?_
    refine W.eq (g2 := F0 m 5 ls []) rfl ?_
    obtain ⟨rf2_1, hq6_1, hq6_2, hq6_3, hq6_4⟩ := hq6
    refine lv_goto (tgt := 14) hx hb dL_plan_5 (by decide) ?_
    refine lv_iconst (v := 0) hx hb dL_plan_14 (by decide) ?_
    have hP : va_P g.1 vwCl (List.flatten [bDR g x ta o lo go tt lt mo fo ro fl9, bTown g o a pe wo tx ch jo tr dy sd f2_1, bLog g go gr gz gn fr, bMem g mo qT qL it il ig mh me2_2 mx2_3 fT fL, bPT g PT2_4, bPL g PL2_5]) H := hP
    have hD : va_D A (List.flatten [bDR g x ta o lo go tt lt mo fo ro fl9, bTown g o a pe wo tx ch jo tr dy sd f2_1, bLog g go gr gz gn fr, bMem g mo qT qL it il ig mh me2_2 mx2_3 fT fL, bPT g PT2_4, bPL g PL2_5]) := hD
    exact zret_i hx hb hr hlocks hS (Nat.le_of_ble_eq_true rfl) (Nat.le_of_ble_eq_true rfl) dL_plan_15 (f2_1, me2_2, mx2_3, PT2_4, PL2_5, (0 : Int32)) rfl (show (zZ4 f2_1) ∧ (0 ≤ me2_2.toInt ∧ me2_2.toInt ≤ 12) ∧ (0 ≤ mx2_3.toInt ∧ mx2_3.toInt ≤ 11) ∧ (zPT fT PT2_4) ∧ (zPL fL PL2_5) from ⟨rf2_1, hq6_1, hq6_2, hq6_3, hq6_4⟩) hP hD
