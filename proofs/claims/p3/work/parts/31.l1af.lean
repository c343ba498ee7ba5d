set_option maxRecDepth 100000 in
set_option maxHeartbeats 4000000 in
theorem l_tell (l : Launch) (hfl : l.stackTraces = false) (g : zG) (x : Nat) (ta : Nat) (o : Nat) (lo : Nat) (go : Nat) (tt : Nat) (lt : Nat) (mo : Nat) (fo : Nat) (ro : Nat) (fl9 : Int32) (a : Nat → Nat) (pe : Int32) (wo : Int32) (tx : Int32) (ch : Int32) (jo : Int32) (tr : Int32) (dy : Int32) (sd : Int32) (f : Nat → Nat → Int32) (gr : Nat) (gz : Int32) (gn : Int32) (fr : Nat → Int32) (qT : Nat) (qL : Nat) (it : Nat) (il : Nat) (ig : Nat) (mh : Int32) (me : Int32) (mx : Int32) (fT : Nat → Option Nat) (fL : Nat → Option Nat) (PT : Nat → zTR) (PL : Nat → zLR) (oa : Nat) (fz : Nat → Int64) (pp : Int32) (b_pe : 0 ≤ pe.toInt ∧ pe.toInt ≤ 8) (b_wo : 0 ≤ wo.toInt ∧ wo.toInt ≤ 6) (rf : zZ4 f) (b_gz : 0 ≤ gz.toInt ∧ gz.toInt ≤ 60) (b_gn : 0 ≤ gn.toInt ∧ gn.toInt ≤ 59) (b_me : 0 ≤ me.toInt ∧ me.toInt ≤ 12) (b_mx : 0 ≤ mx.toInt ∧ mx.toInt ≤ 11) (hPT : zPT fT PT) (hPL : zPL fL PL) : zX' g l yL_tell (Cond.codeWith yL_tell cL_tell 4 (some .int) [(0, 9, 12, 24), (0, 9, 15, 38)] :: zB) ({ frames := 9, cells := 2, slots := 12, locals := 145 } : Room) [.ref x, .int pp, .ref oa] [bDR g x ta o lo go tt lt mo fo ro fl9, bTown g o a pe wo tx ch jo tr dy sd f, bLog g go gr gz gn fr, bMem g mo qT qL it il ig mh me mx fT fL, bPT g PT, bPL g PL, bOut g oa fz] (fun u : (Nat → Nat → Int32) × Int32 × Int32 × (Nat → zTR) × (Nat → zLR) × (Nat → Int64) × Int32 => (fun (f2 : Nat → Nat → Int32) (me2 : Int32) (mx2 : Int32) (PT2 : Nat → zTR) (PL2 : Nat → zLR) (fz2 : Nat → Int64) (q : Int32) => some (.int q)) (u.1) (u.2.1) (u.2.2.1) (u.2.2.2.1) (u.2.2.2.2.1) (u.2.2.2.2.2.1) (u.2.2.2.2.2.2)) (fun u : (Nat → Nat → Int32) × Int32 × Int32 × (Nat → zTR) × (Nat → zLR) × (Nat → Int64) × Int32 => (fun (f2 : Nat → Nat → Int32) (me2 : Int32) (mx2 : Int32) (PT2 : Nat → zTR) (PL2 : Nat → zLR) (fz2 : Nat → Int64) (q : Int32) => (zZ4 f2) ∧ (0 ≤ me2.toInt ∧ me2.toInt ≤ 12) ∧ (0 ≤ mx2.toInt ∧ mx2.toInt ≤ 11) ∧ (zPT fT PT2) ∧ (zPL fL PL2)) (u.1) (u.2.1) (u.2.2.1) (u.2.2.2.1) (u.2.2.2.2.1) (u.2.2.2.2.2.1) (u.2.2.2.2.2.2)) (fun u : (Nat → Nat → Int32) × Int32 × Int32 × (Nat → zTR) × (Nat → zLR) × (Nat → Int64) × Int32 => (fun (f2 : Nat → Nat → Int32) (me2 : Int32) (mx2 : Int32) (PT2 : Nat → zTR) (PL2 : Nat → zLR) (fz2 : Nat → Int64) (q : Int32) => [bDR g x ta o lo go tt lt mo fo ro fl9, bTown g o a pe wo tx ch jo tr dy sd f2, bLog g go gr gz gn fr, bMem g mo qT qL it il ig mh me2 mx2 fT fL, bPT g PT2, bPL g PL2, bOut g oa fz2]) (u.1) (u.2.1) (u.2.2.1) (u.2.2.2.1) (u.2.2.2.2.1) (u.2.2.2.2.2.1) (u.2.2.2.2.2.2)) zNo zN0 := by
  refine zX'.ofH (cc := cL_tell) (maxL := 4) (rt := (some .int)) (by decide) rfl (Nat.le_of_ble_eq_true rfl) ?_
  intro p e s m args below meth c A ls St hr hlocks htab hin hK hT hA hP hD hS hl
  obtain ⟨hx, hb, hml, hown, hts⟩ := id St
  have hl : lv_has ls 4 [(0, .ref x), (1, .int pp), (2, .ref oa)] := hl
  refine lv_aload_n hx hb dL_tell_0 rfl (lv_at hl 2 rfl) ?_
  refine lv_iconst (v := 0) hx hb dL_tell_1 (by decide) ?_
  refine lv_aload_n hx hb dL_tell_2 rfl (lv_at hl 0 rfl) ?_
  refine lv_iload_n hx hb dL_tell_3 rfl (lv_at hl 1 rfl) ?_
  refine xcallV' (g := g) (q0 := 0) (ci := 9) (As := [.int pp]) (rest := [.int 0, .ref oa]) St hK hT hA hP hD hS hl.1 [0, 1, 2, 3, 4, 5] [6] rfl rfl rfl (c_x_tell l hfl g x ta o lo go tt lt mo fo ro fl9 a pe wo tx ch jo tr dy sd f gr gz gn fr qT qL it il ig mh me mx fT fL PT PL pp b_pe b_wo rf b_gz b_gn b_me b_mx hPT hPL) (cwV 1 hts (zgL (zl4 k1179 k1180 k1181 k621) k666) rfl rfl rfl (by decide +kernel) ⟨Nat.le_of_ble_eq_true rfl, Nat.le_of_ble_eq_true rfl⟩) rfl rfl rfl rfl (Nat.le_of_ble_eq_true rfl) dL_tell_4 ⟨(Nat.le_of_ble_eq_true rfl), (Nat.le_of_ble_eq_true rfl)⟩ (fun E ce q9 u9 H locs hpx hP hD hS hce hcv hcl => ?_) (fun u_ H locs hq7 hP hD hS => ?_)
  · skip
    obtain ⟨f2_8, me2_9, mx2_10, PT2_11, PL2_12⟩ := u9
    have hpx : (E = "java/lang/IndexOutOfBoundsException" ∨ E = "java/lang/IllegalStateException") ∧ (zZ4 f2_8) ∧ (0 ≤ me2_9.toInt ∧ me2_9.toInt ≤ 12) ∧ (0 ≤ mx2_10.toInt ∧ mx2_10.toInt ≤ 11) ∧ (zPT fT PT2_11) ∧ (zPL fL PL2_12) := hpx
    have hP : va_P g.1 vwCl (List.flatten [bOut g oa fz, bDR g x ta o lo go tt lt mo fo ro fl9, bTown g o a pe wo tx ch jo tr dy sd f2_8, bLog g go gr gz gn fr, bMem g mo qT qL it il ig mh me2_9 mx2_10 fT fL, bPT g PT2_11, bPL g PL2_12]) H := hP
    have hD : va_D A (List.flatten [bOut g oa fz, bDR g x ta o lo go tt lt mo fo ro fl9, bTown g o a pe wo tx ch jo tr dy sd f2_8, bLog g go gr gz gn fr, bMem g mo qT qL it il ig mh me2_9 mx2_10 fT fL, bPT g PT2_11, bPL g PL2_12]) := hD
    obtain ⟨hE9, rf2_8, hy13, hy14, hy15, hy16⟩ := hpx
    rcases hE9 with rfl | rfl
    · skip
      refine vx_catch hown [] ⟨0, 9, 12, 24⟩ [⟨0, 9, 15, 38⟩] (by rw [htab]; rfl) (fun z hz => absurd hz List.not_mem_nil) (by decide) (by decide) (hts _ k1164) ((hT.1.2.2.2.2.1 _ (List.mem_of_getElem? (i := 0) rfl)).use) hce hcv hcl ?_
      refine W.widen (k := 2) (n := 12) (Nat.le_of_ble_eq_true rfl) (Nat.le_of_ble_eq_true rfl) ?_
      refine lv_astore_n (lv' := [(3, .ref q9), (0, .ref x), (1, .int pp), (2, .ref oa)]) hx hb dL_tell_12 rfl hl (by decide) rfl (fun ls hl => ?_)
      refine lv_iconst (v := 1) hx hb dL_tell_13 (by decide) ?_
      have hP : va_P g.1 vwCl (List.flatten [bOut g oa fz, bDR g x ta o lo go tt lt mo fo ro fl9, bTown g o a pe wo tx ch jo tr dy sd f2_8, bLog g go gr gz gn fr, bMem g mo qT qL it il ig mh me2_9 mx2_10 fT fL, bPT g PT2_11, bPL g PL2_12]) H := hP
      have hD : va_D A (List.flatten [bOut g oa fz, bDR g x ta o lo go tt lt mo fo ro fl9, bTown g o a pe wo tx ch jo tr dy sd f2_8, bLog g go gr gz gn fr, bMem g mo qT qL it il ig mh me2_9 mx2_10 fT fL, bPT g PT2_11, bPL g PL2_12]) := hD
      obtain ⟨hP, hD⟩ := zord (g := g) (Bs' := [bDR g x ta o lo go tt lt mo fo ro fl9, bTown g o a pe wo tx ch jo tr dy sd f2_8, bLog g go gr gz gn fr, bMem g mo qT qL it il ig mh me2_9 mx2_10 fT fL, bPT g PT2_11, bPL g PL2_12, bOut g oa fz]) [1, 2, 3, 4, 5, 6, 0] rfl rfl hP hD
      exact zret_i hx hb hr hlocks hS (Nat.le_of_ble_eq_true rfl) (Nat.le_of_ble_eq_true rfl) dL_tell_14 (f2_8, me2_9, mx2_10, PT2_11, PL2_12, fz, (1 : Int32)) rfl (show (zZ4 f2_8) ∧ (0 ≤ me2_9.toInt ∧ me2_9.toInt ≤ 12) ∧ (0 ≤ mx2_10.toInt ∧ mx2_10.toInt ≤ 11) ∧ (zPT fT PT2_11) ∧ (zPL fL PL2_12) from ⟨rf2_8, hy13, hy14, hy15, hy16⟩) hP hD
    · skip
      refine vx_catch hown [⟨0, 9, 12, 24⟩] ⟨0, 9, 15, 38⟩ [] (by rw [htab]; rfl) (fun z hz => by
            rcases List.mem_cons.mp hz with rfl | hz; · exact Or.inr ⟨by decide, "java/lang/IndexOutOfBoundsException", hts _ k1164, hT.1.2.2.2.2.2.1 _ (List.mem_of_getElem? (i := 8) rfl)⟩
            cases hz) (by decide) (by decide) (hts _ k1178) ((hT.1.2.2.2.2.1 _ (List.mem_of_getElem? (i := 2) rfl)).use) hce hcv hcl ?_
      refine W.widen (k := 2) (n := 12) (Nat.le_of_ble_eq_true rfl) (Nat.le_of_ble_eq_true rfl) ?_
      refine lv_astore_n (lv' := [(3, .ref q9), (0, .ref x), (1, .int pp), (2, .ref oa)]) hx hb dL_tell_15 rfl hl (by decide) rfl (fun ls hl => ?_)
      refine lv_iconst (v := 2) hx hb dL_tell_16 (by decide) ?_
      have hP : va_P g.1 vwCl (List.flatten [bOut g oa fz, bDR g x ta o lo go tt lt mo fo ro fl9, bTown g o a pe wo tx ch jo tr dy sd f2_8, bLog g go gr gz gn fr, bMem g mo qT qL it il ig mh me2_9 mx2_10 fT fL, bPT g PT2_11, bPL g PL2_12]) H := hP
      have hD : va_D A (List.flatten [bOut g oa fz, bDR g x ta o lo go tt lt mo fo ro fl9, bTown g o a pe wo tx ch jo tr dy sd f2_8, bLog g go gr gz gn fr, bMem g mo qT qL it il ig mh me2_9 mx2_10 fT fL, bPT g PT2_11, bPL g PL2_12]) := hD
      obtain ⟨hP, hD⟩ := zord (g := g) (Bs' := [bDR g x ta o lo go tt lt mo fo ro fl9, bTown g o a pe wo tx ch jo tr dy sd f2_8, bLog g go gr gz gn fr, bMem g mo qT qL it il ig mh me2_9 mx2_10 fT fL, bPT g PT2_11, bPL g PL2_12, bOut g oa fz]) [1, 2, 3, 4, 5, 6, 0] rfl rfl hP hD
      exact zret_i hx hb hr hlocks hS (Nat.le_of_ble_eq_true rfl) (Nat.le_of_ble_eq_true rfl) dL_tell_17 (f2_8, me2_9, mx2_10, PT2_11, PL2_12, fz, (2 : Int32)) rfl (show (zZ4 f2_8) ∧ (0 ≤ me2_9.toInt ∧ me2_9.toInt ≤ 12) ∧ (0 ≤ mx2_10.toInt ∧ mx2_10.toInt ≤ 11) ∧ (zPT fT PT2_11) ∧ (zPL fL PL2_12) from ⟨rf2_8, hy13, hy14, hy15, hy16⟩) hP hD
  · skip
    obtain ⟨f2_1, me2_2, mx2_3, PT2_4, PL2_5, q_6⟩ := u_
    replace hq7 : (zZ4 f2_1) ∧ (0 ≤ me2_2.toInt ∧ me2_2.toInt ≤ 12) ∧ (0 ≤ mx2_3.toInt ∧ mx2_3.toInt ≤ 11) ∧ (zPT fT PT2_4) ∧ (zPL fL PL2_5) := hq7
    have hP : va_P g.1 vwCl (List.flatten [bOut g oa fz, bDR g x ta o lo go tt lt mo fo ro fl9, bTown g o a pe wo tx ch jo tr dy sd f2_1, bLog g go gr gz gn fr, bMem g mo qT qL it il ig mh me2_2 mx2_3 fT fL, bPT g PT2_4, bPL g PL2_5]) H := hP
    have hD : va_D A (List.flatten [bOut g oa fz, bDR g x ta o lo go tt lt mo fo ro fl9, bTown g o a pe wo tx ch jo tr dy sd f2_1, bLog g go gr gz gn fr, bMem g mo qT qL it il ig mh me2_2 mx2_3 fT fL, bPT g PT2_4, bPL g PL2_5]) := hD
    refine W.widen (k := 2) (n := 12) (Nat.le_of_ble_eq_true rfl) (Nat.le_of_ble_eq_true rfl) ?_
    refine W.eq (g2 := F0 m 7 ls [.int q_6, .int 0, .ref oa]) rfl ?_
    obtain ⟨rf2_1, hq7_1, hq7_2, hq7_3, hq7_4⟩ := hq7
    refine lv_i2l hx hb dL_tell_7 rfl (zgl (fun y17 => ?_))
    refine va_last hx hb hK hP hD hS 0 2 rfl rfl (zin rfl) dL_tell_8 (fun H locs hP hD hS => ?_)
    have hP : va_P g.1 vwCl (List.flatten [[(oa, .inl (g.2 2, 1, .inr (.inl (vp_updL fz 0 y17))))], bDR g x ta o lo go tt lt mo fo ro fl9, bTown g o a pe wo tx ch jo tr dy sd f2_1, bLog g go gr gz gn fr, bMem g mo qT qL it il ig mh me2_2 mx2_3 fT fL, bPT g PT2_4, bPL g PL2_5]) H := hP
    have hD : va_D A (List.flatten [[(oa, .inl (g.2 2, 1, .inr (.inl (vp_updL fz 0 y17))))], bDR g x ta o lo go tt lt mo fo ro fl9, bTown g o a pe wo tx ch jo tr dy sd f2_1, bLog g go gr gz gn fr, bMem g mo qT qL it il ig mh me2_2 mx2_3 fT fL, bPT g PT2_4, bPL g PL2_5]) := hD
    refine lv_goto (tgt := 18) hx hb dL_tell_9 (by decide) ?_
    refine lv_iconst (v := 0) hx hb dL_tell_18 (by decide) ?_
    have hP : va_P g.1 vwCl (List.flatten [bOut g oa (vp_updL fz 0 y17), bDR g x ta o lo go tt lt mo fo ro fl9, bTown g o a pe wo tx ch jo tr dy sd f2_1, bLog g go gr gz gn fr, bMem g mo qT qL it il ig mh me2_2 mx2_3 fT fL, bPT g PT2_4, bPL g PL2_5]) H := hP
    have hD : va_D A (List.flatten [bOut g oa (vp_updL fz 0 y17), bDR g x ta o lo go tt lt mo fo ro fl9, bTown g o a pe wo tx ch jo tr dy sd f2_1, bLog g go gr gz gn fr, bMem g mo qT qL it il ig mh me2_2 mx2_3 fT fL, bPT g PT2_4, bPL g PL2_5]) := hD
    obtain ⟨hP, hD⟩ := zord (g := g) (Bs' := [bDR g x ta o lo go tt lt mo fo ro fl9, bTown g o a pe wo tx ch jo tr dy sd f2_1, bLog g go gr gz gn fr, bMem g mo qT qL it il ig mh me2_2 mx2_3 fT fL, bPT g PT2_4, bPL g PL2_5, bOut g oa (vp_updL fz 0 y17)]) [1, 2, 3, 4, 5, 6, 0] rfl rfl hP hD
    exact zret_i hx hb hr hlocks hS (Nat.le_of_ble_eq_true rfl) (Nat.le_of_ble_eq_true rfl) dL_tell_19 (f2_1, me2_2, mx2_3, PT2_4, PL2_5, vp_updL fz 0 y17, (0 : Int32)) rfl (show (zZ4 f2_1) ∧ (0 ≤ me2_2.toInt ∧ me2_2.toInt ≤ 12) ∧ (0 ≤ mx2_3.toInt ∧ mx2_3.toInt ≤ 11) ∧ (zPT fT PT2_4) ∧ (zPL fL PL2_5) from ⟨rf2_1, hq7_1, hq7_2, hq7_3, hq7_4⟩) hP hD
