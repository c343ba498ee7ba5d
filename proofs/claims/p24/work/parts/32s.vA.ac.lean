set_option maxRecDepth 100000 in
set_option maxHeartbeats 4000000 in
theorem l_daysC (l : Launch) (hfl : l.stackTraces = false) (g : zG) (x : Nat) (ta : Nat) (o : Nat) (lo : Nat) (go : Nat) (tt : Nat) (lt : Nat) (mo : Nat) (fo : Nat) (ro : Nat) (fl9 : Int32) (a : Nat → Nat) (pe : Int32) (wo : Int32) (tx : Int32) (ch : Int32) (jo : Int32) (tr : Int32) (dy : Int32) (sd : Int32) (f : Nat → Nat → Int32) (lc : Nat) (lz : Int32) (ll : Int32) (lm : Int32) (lg : Int32) (ld : Int32) (fc : Nat → Int32) (gr : Nat) (gz : Int32) (gn : Int32) (fr : Nat → Int32) (qT : Nat) (qL : Nat) (it : Nat) (il : Nat) (ig : Nat) (mh : Int32) (me : Int32) (mx : Int32) (fT : Nat → Option Nat) (fL : Nat → Option Nat) (PT : Nat → zTR) (PL : Nat → zLR) (oa : Nat) (fz : Nat → Int64) (n : Int32) (b_pe : 0 ≤ pe.toInt ∧ pe.toInt ≤ 8) (b_wo : 0 ≤ wo.toInt ∧ wo.toInt ≤ 6) (rf : zZ4 f) (b_lz : 0 ≤ lz.toInt ∧ lz.toInt ≤ 400) (b_gz : 0 ≤ gz.toInt ∧ gz.toInt ≤ 60) (b_gn : 0 ≤ gn.toInt ∧ gn.toInt ≤ 59) (b_me : 0 ≤ me.toInt ∧ me.toInt ≤ 12) (b_mx : 0 ≤ mx.toInt ∧ mx.toInt ≤ 11) (hPT : zPT fT PT) (hPL : zPL fL PL) : zX' g l yL_days (Cond.codeWith yL_days cL_days 4 (some .int) [(0, 9, 12, 13)] :: zB) ({ frames := 8, cells := 1, slots := 6, locals := 151 } : Room) [.ref x, .int n, .ref oa] [bDR g x ta o lo go tt lt mo fo ro fl9, bTown g o a pe wo tx ch jo tr dy sd f, bLaw g lo lc lz ll lm lg ld fc, bLog g go gr gz gn fr, bMem g mo qT qL it il ig mh me mx fT fL, bPT g PT, bPL g PL, bOut g oa fz] (fun u : Int32 × Int32 × Int32 × (Nat → Nat → Int32) × Int32 × Int32 × Int32 × Int32 × Int32 × (Nat → Int32) × Int32 × Int32 × (Nat → zTR) × (Nat → zLR) × (Nat → Int64) × Int32 × Int32 => (fun (ch2 : Int32) (dy2 : Int32) (sd2 : Int32) (f2 : Nat → Nat → Int32) (lm2 : Int32) (lg2 : Int32) (ld2 : Int32) (gz2 : Int32) (gn2 : Int32) (fr2 : Nat → Int32) (me2 : Int32) (mx2 : Int32) (PT2 : Nat → zTR) (PL2 : Nat → zLR) (fz2 : Nat → Int64) (q : Int32) (a9 : Int32) => some (.int q)) (u.1) (u.2.1) (u.2.2.1) (u.2.2.2.1) (u.2.2.2.2.1) (u.2.2.2.2.2.1) (u.2.2.2.2.2.2.1) (u.2.2.2.2.2.2.2.1) (u.2.2.2.2.2.2.2.2.1) (u.2.2.2.2.2.2.2.2.2.1) (u.2.2.2.2.2.2.2.2.2.2.1) (u.2.2.2.2.2.2.2.2.2.2.2.1) (u.2.2.2.2.2.2.2.2.2.2.2.2.1) (u.2.2.2.2.2.2.2.2.2.2.2.2.2.1) (u.2.2.2.2.2.2.2.2.2.2.2.2.2.2.1) (u.2.2.2.2.2.2.2.2.2.2.2.2.2.2.2.1) (u.2.2.2.2.2.2.2.2.2.2.2.2.2.2.2.2)) (fun u : Int32 × Int32 × Int32 × (Nat → Nat → Int32) × Int32 × Int32 × Int32 × Int32 × Int32 × (Nat → Int32) × Int32 × Int32 × (Nat → zTR) × (Nat → zLR) × (Nat → Int64) × Int32 × Int32 => (fun (ch2 : Int32) (dy2 : Int32) (sd2 : Int32) (f2 : Nat → Nat → Int32) (lm2 : Int32) (lg2 : Int32) (ld2 : Int32) (gz2 : Int32) (gn2 : Int32) (fr2 : Nat → Int32) (me2 : Int32) (mx2 : Int32) (PT2 : Nat → zTR) (PL2 : Nat → zLR) (fz2 : Nat → Int64) (q : Int32) (a9 : Int32) => (zZ4 f2) ∧ (0 ≤ gz2.toInt ∧ gz2.toInt ≤ 60) ∧ (0 ≤ gn2.toInt ∧ gn2.toInt ≤ 59) ∧ (0 ≤ me2.toInt ∧ me2.toInt ≤ 12) ∧ (0 ≤ mx2.toInt ∧ mx2.toInt ≤ 11) ∧ (zPT fT PT2) ∧ (zPL fL PL2) ∧ (zX9 (q, a9, (pe, wo, tx, ch2, jo, tr, dy2, sd2, f2)) (zxDays (zLwR fc lz ll) n (pe, wo, tx, ch, jo, tr, dy, sd, f))) ∧ (zMz q PT PT2 me.toInt me2.toInt mx.toInt mx2.toInt (pe, wo, tx, ch, jo, tr, dy, sd, f)) ∧ (q.toInt = 0 → fz2 0 = Int32.toInt64 a9)) (u.1) (u.2.1) (u.2.2.1) (u.2.2.2.1) (u.2.2.2.2.1) (u.2.2.2.2.2.1) (u.2.2.2.2.2.2.1) (u.2.2.2.2.2.2.2.1) (u.2.2.2.2.2.2.2.2.1) (u.2.2.2.2.2.2.2.2.2.1) (u.2.2.2.2.2.2.2.2.2.2.1) (u.2.2.2.2.2.2.2.2.2.2.2.1) (u.2.2.2.2.2.2.2.2.2.2.2.2.1) (u.2.2.2.2.2.2.2.2.2.2.2.2.2.1) (u.2.2.2.2.2.2.2.2.2.2.2.2.2.2.1) (u.2.2.2.2.2.2.2.2.2.2.2.2.2.2.2.1) (u.2.2.2.2.2.2.2.2.2.2.2.2.2.2.2.2)) (fun u : Int32 × Int32 × Int32 × (Nat → Nat → Int32) × Int32 × Int32 × Int32 × Int32 × Int32 × (Nat → Int32) × Int32 × Int32 × (Nat → zTR) × (Nat → zLR) × (Nat → Int64) × Int32 × Int32 => (fun (ch2 : Int32) (dy2 : Int32) (sd2 : Int32) (f2 : Nat → Nat → Int32) (lm2 : Int32) (lg2 : Int32) (ld2 : Int32) (gz2 : Int32) (gn2 : Int32) (fr2 : Nat → Int32) (me2 : Int32) (mx2 : Int32) (PT2 : Nat → zTR) (PL2 : Nat → zLR) (fz2 : Nat → Int64) (q : Int32) (a9 : Int32) => [bDR g x ta o lo go tt lt mo fo ro fl9, bTown g o a pe wo tx ch2 jo tr dy2 sd2 f2, bLaw g lo lc lz ll lm2 lg2 ld2 fc, bLog g go gr gz2 gn2 fr2, bMem g mo qT qL it il ig mh me2 mx2 fT fL, bPT g PT2, bPL g PL2, bOut g oa fz2]) (u.1) (u.2.1) (u.2.2.1) (u.2.2.2.1) (u.2.2.2.2.1) (u.2.2.2.2.2.1) (u.2.2.2.2.2.2.1) (u.2.2.2.2.2.2.2.1) (u.2.2.2.2.2.2.2.2.1) (u.2.2.2.2.2.2.2.2.2.1) (u.2.2.2.2.2.2.2.2.2.2.1) (u.2.2.2.2.2.2.2.2.2.2.2.1) (u.2.2.2.2.2.2.2.2.2.2.2.2.1) (u.2.2.2.2.2.2.2.2.2.2.2.2.2.1) (u.2.2.2.2.2.2.2.2.2.2.2.2.2.2.1) (u.2.2.2.2.2.2.2.2.2.2.2.2.2.2.2.1) (u.2.2.2.2.2.2.2.2.2.2.2.2.2.2.2.2)) zNo zN0 := by
  refine zX'.ofH (cc := cL_days) (maxL := 4) (rt := (some .int)) (by decide) rfl (Nat.le_of_ble_eq_true rfl) ?_
  intro p e s m args below meth c A ls St hr hlocks htab hin hK hT hA hP hD hS hl
  obtain ⟨hx, hb, hml, hown, hts⟩ := id St
  have hl : lv_has ls 4 [(0, .ref x), (1, .int n), (2, .ref oa)] := hl
  refine lv_aload_n hx hb dL_days_0 rfl (lv_at hl 2 rfl) ?_
  refine lv_iconst (v := 0) hx hb dL_days_1 (by decide) ?_
  refine lv_aload_n hx hb dL_days_2 rfl (lv_at hl 0 rfl) ?_
  refine lv_iload_n hx hb dL_days_3 rfl (lv_at hl 1 rfl) ?_
  refine xcallV' (g := g) (q0 := 0) (ci := 9) (As := [.int n]) (rest := [.int 0, .ref oa]) St hK hT hA hP hD hS hl.1 [0, 1, 2, 3, 4, 5, 6] [7] rfl rfl rfl (c_x_daysC l hfl g x ta o lo go tt lt mo fo ro fl9 a pe wo tx ch jo tr dy sd f lc lz ll lm lg ld fc gr gz gn fr qT qL it il ig mh me mx fT fL PT PL n b_pe b_wo rf b_lz b_gz b_gn b_me b_mx hPT hPL) (cwV 1 hts (zgL (zl4 k1208 k1209 k1210 k621) k683) rfl rfl rfl (by decide +kernel) ⟨Nat.le_of_ble_eq_true rfl, Nat.le_of_ble_eq_true rfl⟩) rfl rfl rfl rfl (Nat.le_of_ble_eq_true rfl) dL_days_4 ⟨(Nat.le_of_ble_eq_true rfl), (Nat.le_of_ble_eq_true rfl)⟩ (fun E ce q9 u9 H locs hpx hP hD hS hce hcv hcl => ?_) (fun u_ H locs hq16 hP hD hS => ?_)
  · skip
    obtain ⟨ch2_17, dy2_18, sd2_19, f2_20, lm2_21, lg2_22, ld2_23, gz2_24, gn2_25, fr2_26, me2_27, mx2_28, PT2_29, PL2_30⟩ := u9
    have hpx : (E = "java/lang/IllegalArgumentException") ∧ (zZ4 f2_20) ∧ (0 ≤ gz2_24.toInt ∧ gz2_24.toInt ≤ 60) ∧ (0 ≤ gn2_25.toInt ∧ gn2_25.toInt ≤ 59) ∧ (0 ≤ me2_27.toInt ∧ me2_27.toInt ≤ 12) ∧ (0 ≤ mx2_28.toInt ∧ mx2_28.toInt ≤ 11) ∧ (zPT fT PT2_29) ∧ (zPL fL PL2_30) ∧ (E = "java/lang/IllegalArgumentException" → zX9 (1, 0, (pe, wo, tx, ch, jo, tr, dy, sd, f)) (zxDays (zLwR fc lz ll) n (pe, wo, tx, ch, jo, tr, dy, sd, f))) ∧ ((pe, wo, tx, ch2_17, jo, tr, dy2_18, sd2_19, f2_20) = (pe, wo, tx, ch, jo, tr, dy, sd, f)) ∧ (PT2_29 = PT) ∧ (me2_27.toInt = me.toInt) ∧ (mx2_28.toInt = mx.toInt) := hpx
    have hP : va_P g.1 vwCl (List.flatten [bOut g oa fz, bDR g x ta o lo go tt lt mo fo ro fl9, bTown g o a pe wo tx ch2_17 jo tr dy2_18 sd2_19 f2_20, bLaw g lo lc lz ll lm2_21 lg2_22 ld2_23 fc, bLog g go gr gz2_24 gn2_25 fr2_26, bMem g mo qT qL it il ig mh me2_27 mx2_28 fT fL, bPT g PT2_29, bPL g PL2_30]) H := hP
    have hD : va_D A (List.flatten [bOut g oa fz, bDR g x ta o lo go tt lt mo fo ro fl9, bTown g o a pe wo tx ch2_17 jo tr dy2_18 sd2_19 f2_20, bLaw g lo lc lz ll lm2_21 lg2_22 ld2_23 fc, bLog g go gr gz2_24 gn2_25 fr2_26, bMem g mo qT qL it il ig mh me2_27 mx2_28 fT fL, bPT g PT2_29, bPL g PL2_30]) := hD
    obtain ⟨hE9, rf2_20, hy31, hy32, hy33, hy34, hy35, hy36, hy37, hy38, hy39, hy40, hy41⟩ := hpx
    obtain rfl := hE9
    refine vx_catch hown [] ⟨0, 9, 12, 13⟩ [] (by rw [htab]; rfl) (fun z hz => absurd hz List.not_mem_nil) (by decide) (by decide) (hts _ k1155) ((hT.1.2.2.2.2.1 _ (List.mem_of_getElem? (i := 1) rfl)).use) hce hcv hcl ?_
    refine W.widen (k := 1) (n := 6) (Nat.le_of_ble_eq_true rfl) (Nat.le_of_ble_eq_true rfl) ?_
    refine lv_astore_n (lv' := [(3, .ref q9), (0, .ref x), (1, .int n), (2, .ref oa)]) hx hb dL_days_12 rfl hl (by decide) rfl (fun ls hl => ?_)
    refine lv_iconst (v := 1) hx hb dL_days_13 (by decide) ?_
    have hL1 : (1 : Int32).toInt = 1 := by decide
    have hP : va_P g.1 vwCl (List.flatten [bOut g oa fz, bDR g x ta o lo go tt lt mo fo ro fl9, bTown g o a pe wo tx ch2_17 jo tr dy2_18 sd2_19 f2_20, bLaw g lo lc lz ll lm2_21 lg2_22 ld2_23 fc, bLog g go gr gz2_24 gn2_25 fr2_26, bMem g mo qT qL it il ig mh me2_27 mx2_28 fT fL, bPT g PT2_29, bPL g PL2_30]) H := hP
    have hD : va_D A (List.flatten [bOut g oa fz, bDR g x ta o lo go tt lt mo fo ro fl9, bTown g o a pe wo tx ch2_17 jo tr dy2_18 sd2_19 f2_20, bLaw g lo lc lz ll lm2_21 lg2_22 ld2_23 fc, bLog g go gr gz2_24 gn2_25 fr2_26, bMem g mo qT qL it il ig mh me2_27 mx2_28 fT fL, bPT g PT2_29, bPL g PL2_30]) := hD
    obtain ⟨hP, hD⟩ := zord (g := g) (Bs' := [bDR g x ta o lo go tt lt mo fo ro fl9, bTown g o a pe wo tx ch2_17 jo tr dy2_18 sd2_19 f2_20, bLaw g lo lc lz ll lm2_21 lg2_22 ld2_23 fc, bLog g go gr gz2_24 gn2_25 fr2_26, bMem g mo qT qL it il ig mh me2_27 mx2_28 fT fL, bPT g PT2_29, bPL g PL2_30, bOut g oa fz]) [1, 2, 3, 4, 5, 6, 7, 0] rfl rfl hP hD
    exact zret_i hx hb hr hlocks hS (Nat.le_of_ble_eq_true rfl) (Nat.le_of_ble_eq_true rfl) dL_days_14 (ch2_17, dy2_18, sd2_19, f2_20, lm2_21, lg2_22, ld2_23, gz2_24, gn2_25, fr2_26, me2_27, mx2_28, PT2_29, PL2_30, fz, (1 : Int32), (0 : Int32)) rfl (show (zZ4 f2_20) ∧ (0 ≤ gz2_24.toInt ∧ gz2_24.toInt ≤ 60) ∧ (0 ≤ gn2_25.toInt ∧ gn2_25.toInt ≤ 59) ∧ (0 ≤ me2_27.toInt ∧ me2_27.toInt ≤ 12) ∧ (0 ≤ mx2_28.toInt ∧ mx2_28.toInt ≤ 11) ∧ (zPT fT PT2_29) ∧ (zPL fL PL2_30) ∧ (zX9 (1, 0, (pe, wo, tx, ch2_17, jo, tr, dy2_18, sd2_19, f2_20)) (zxDays (zLwR fc lz ll) n (pe, wo, tx, ch, jo, tr, dy, sd, f))) ∧ (zMz 1 PT PT2_29 me.toInt me2_27.toInt mx.toInt mx2_28.toInt (pe, wo, tx, ch, jo, tr, dy, sd, f)) ∧ ((1 : Int32).toInt = 0 → fz 0 = Int32.toInt64 0) from ⟨(by first | assumption | omega | decide), (by first | assumption | omega | decide), (by first | assumption | omega | decide), (by first | assumption | omega | decide), (by first | assumption | omega | decide), (by first | assumption | omega | decide), (by first | assumption | omega | decide), (zX_s (hy37 rfl) hy38), (zMz_n (by decide) hy39 hy40 hy41), (fun h9 => absurd h9 (by decide))⟩) hP hD
  · skip
    obtain ⟨ch2_1, dy2_2, sd2_3, f2_4, lm2_5, lg2_6, ld2_7, gz2_8, gn2_9, fr2_10, me2_11, mx2_12, PT2_13, PL2_14, q_15⟩ := u_
    replace hq16 : (zZ4 f2_4) ∧ (0 ≤ gz2_8.toInt ∧ gz2_8.toInt ≤ 60) ∧ (0 ≤ gn2_9.toInt ∧ gn2_9.toInt ≤ 59) ∧ (0 ≤ me2_11.toInt ∧ me2_11.toInt ≤ 12) ∧ (0 ≤ mx2_12.toInt ∧ mx2_12.toInt ≤ 11) ∧ (zPT fT PT2_13) ∧ (zPL fL PL2_14) ∧ (zX9 (0, q_15, (pe, wo, tx, ch2_1, jo, tr, dy2_2, sd2_3, f2_4)) (zxDays (zLwR fc lz ll) n (pe, wo, tx, ch, jo, tr, dy, sd, f)) ∧ zMy PT PT2_13 me.toInt me2_11.toInt mx.toInt mx2_12.toInt (pe, wo, tx, ch, jo, tr, dy, sd, f)) := hq16
    have hP : va_P g.1 vwCl (List.flatten [bOut g oa fz, bDR g x ta o lo go tt lt mo fo ro fl9, bTown g o a pe wo tx ch2_1 jo tr dy2_2 sd2_3 f2_4, bLaw g lo lc lz ll lm2_5 lg2_6 ld2_7 fc, bLog g go gr gz2_8 gn2_9 fr2_10, bMem g mo qT qL it il ig mh me2_11 mx2_12 fT fL, bPT g PT2_13, bPL g PL2_14]) H := hP
    have hD : va_D A (List.flatten [bOut g oa fz, bDR g x ta o lo go tt lt mo fo ro fl9, bTown g o a pe wo tx ch2_1 jo tr dy2_2 sd2_3 f2_4, bLaw g lo lc lz ll lm2_5 lg2_6 ld2_7 fc, bLog g go gr gz2_8 gn2_9 fr2_10, bMem g mo qT qL it il ig mh me2_11 mx2_12 fT fL, bPT g PT2_13, bPL g PL2_14]) := hD
    refine W.widen (k := 1) (n := 6) (Nat.le_of_ble_eq_true rfl) (Nat.le_of_ble_eq_true rfl) ?_
    refine W.eq (g2 := F0 m 7 ls [.int q_15, .int 0, .ref oa]) rfl ?_
    obtain ⟨rf2_4, hq16_1, hq16_2, hq16_3, hq16_4, hq16_5, hq16_6, hq16_7⟩ := hq16
    refine lv_i2l (v := (q_15 : Int32).toInt64) hx hb dL_days_7 rfl ?_
    refine va_last hx hb hK hP hD hS 0 2 rfl rfl (zin rfl) dL_days_8 (fun H locs hP hD hS => ?_)
    have hP : va_P g.1 vwCl (List.flatten [[(oa, .inl (g.2 2, 1, .inr (.inl (vp_updL fz 0 ((q_15 : Int32).toInt64)))))], bDR g x ta o lo go tt lt mo fo ro fl9, bTown g o a pe wo tx ch2_1 jo tr dy2_2 sd2_3 f2_4, bLaw g lo lc lz ll lm2_5 lg2_6 ld2_7 fc, bLog g go gr gz2_8 gn2_9 fr2_10, bMem g mo qT qL it il ig mh me2_11 mx2_12 fT fL, bPT g PT2_13, bPL g PL2_14]) H := hP
    have hD : va_D A (List.flatten [[(oa, .inl (g.2 2, 1, .inr (.inl (vp_updL fz 0 ((q_15 : Int32).toInt64)))))], bDR g x ta o lo go tt lt mo fo ro fl9, bTown g o a pe wo tx ch2_1 jo tr dy2_2 sd2_3 f2_4, bLaw g lo lc lz ll lm2_5 lg2_6 ld2_7 fc, bLog g go gr gz2_8 gn2_9 fr2_10, bMem g mo qT qL it il ig mh me2_11 mx2_12 fT fL, bPT g PT2_13, bPL g PL2_14]) := hD
    refine lv_goto (tgt := 15) hx hb dL_days_9 (by decide) ?_
    refine lv_iconst (v := 0) hx hb dL_days_15 (by decide) ?_
    have hL0 : (0 : Int32).toInt = 0 := by decide
    have hP : va_P g.1 vwCl (List.flatten [bOut g oa (vp_updL fz 0 ((q_15 : Int32).toInt64)), bDR g x ta o lo go tt lt mo fo ro fl9, bTown g o a pe wo tx ch2_1 jo tr dy2_2 sd2_3 f2_4, bLaw g lo lc lz ll lm2_5 lg2_6 ld2_7 fc, bLog g go gr gz2_8 gn2_9 fr2_10, bMem g mo qT qL it il ig mh me2_11 mx2_12 fT fL, bPT g PT2_13, bPL g PL2_14]) H := hP
    have hD : va_D A (List.flatten [bOut g oa (vp_updL fz 0 ((q_15 : Int32).toInt64)), bDR g x ta o lo go tt lt mo fo ro fl9, bTown g o a pe wo tx ch2_1 jo tr dy2_2 sd2_3 f2_4, bLaw g lo lc lz ll lm2_5 lg2_6 ld2_7 fc, bLog g go gr gz2_8 gn2_9 fr2_10, bMem g mo qT qL it il ig mh me2_11 mx2_12 fT fL, bPT g PT2_13, bPL g PL2_14]) := hD
    obtain ⟨hP, hD⟩ := zord (g := g) (Bs' := [bDR g x ta o lo go tt lt mo fo ro fl9, bTown g o a pe wo tx ch2_1 jo tr dy2_2 sd2_3 f2_4, bLaw g lo lc lz ll lm2_5 lg2_6 ld2_7 fc, bLog g go gr gz2_8 gn2_9 fr2_10, bMem g mo qT qL it il ig mh me2_11 mx2_12 fT fL, bPT g PT2_13, bPL g PL2_14, bOut g oa (vp_updL fz 0 ((q_15 : Int32).toInt64))]) [1, 2, 3, 4, 5, 6, 7, 0] rfl rfl hP hD
    exact zret_i hx hb hr hlocks hS (Nat.le_of_ble_eq_true rfl) (Nat.le_of_ble_eq_true rfl) dL_days_16 (ch2_1, dy2_2, sd2_3, f2_4, lm2_5, lg2_6, ld2_7, gz2_8, gn2_9, fr2_10, me2_11, mx2_12, PT2_13, PL2_14, vp_updL fz 0 ((q_15 : Int32).toInt64), (0 : Int32), q_15) rfl (show (zZ4 f2_4) ∧ (0 ≤ gz2_8.toInt ∧ gz2_8.toInt ≤ 60) ∧ (0 ≤ gn2_9.toInt ∧ gn2_9.toInt ≤ 59) ∧ (0 ≤ me2_11.toInt ∧ me2_11.toInt ≤ 12) ∧ (0 ≤ mx2_12.toInt ∧ mx2_12.toInt ≤ 11) ∧ (zPT fT PT2_13) ∧ (zPL fL PL2_14) ∧ (zX9 (0, q_15, (pe, wo, tx, ch2_1, jo, tr, dy2_2, sd2_3, f2_4)) (zxDays (zLwR fc lz ll) n (pe, wo, tx, ch, jo, tr, dy, sd, f))) ∧ (zMz 0 PT PT2_13 me.toInt me2_11.toInt mx.toInt mx2_12.toInt (pe, wo, tx, ch, jo, tr, dy, sd, f)) ∧ ((0 : Int32).toInt = 0 → (vp_updL fz 0 ((q_15 : Int32).toInt64)) 0 = Int32.toInt64 q_15) from ⟨(by first | assumption | omega | decide), (by first | assumption | omega | decide), (by first | assumption | omega | decide), (by first | assumption | omega | decide), (by first | assumption | omega | decide), (by first | assumption | omega | decide), (by first | assumption | omega | decide), hq16_7.1, (zMz_y (by decide) hq16_7.2), (fun _ => rfl)⟩) hP hD
set_option maxRecDepth 100000 in
set_option maxHeartbeats 4000000 in
theorem m_isPersonG (l : Launch) (g : zG) (o : Nat) (a : Nat → Nat) (th : Int32) (hi : Int32) (ac : Int32) (tp : Int32) (ba : Int32) (en : Int32) (tA : Int32) (fl : Int32) (de : Int32) (iD : Int32) (iO : Int32) (tU : Int32) (fm : Nat → Int32) (fk : Nat → Int32) (fa : Nat → Int32) (fc : Nat → Int32) (ft : Nat → Int32) (ff : Nat → Int32) (fb : Nat → Int32) (fi : Nat → Int32) (x : Int32) (rfm : rM fm) : zM' g l yX12_isPerson (Cond.code yX12_isPerson cX12_isPerson 2 (some .boolean) :: zB) ({ frames := 1, cells := 0, slots := 0, locals := 22 } : Room) [.ref o, .int x] [bMo g o a th hi ac tp ba en tA fl de iD iO tU fm fk fa fc ft ff fb fi] (fun (q : Int32) => some (.int q)) (fun (q : Int32) => (q = 1 ∧ 0 ≤ x.toInt ∧ x.toInt ≤ 7 ∧ x.toInt < (fm 3).toInt ∨ q = 0 ∧ ¬ (0 ≤ x.toInt ∧ x.toInt < (fm 3).toInt))) (fun (q : Int32) => [bMo g o a th hi ac tp ba en tA fl de iD iO tU fm fk fa fc ft ff fb fi]) := by
  refine zM'.of (cc := cX12_isPerson) (maxL := 2) (rt := (some .boolean)) (by decide) rfl (Nat.le_of_ble_eq_true rfl) ?_
  intro p e s m args below meth c A ls St hr hlocks hin hK hT hA hP hD hS hl
  obtain ⟨hx, hb, hml, hown, hts⟩ := id St
  have hl : lv_has ls 2 [(0, .ref o), (1, .int x)] := hl
  refine lv_iload_n hx hb dX12_isPerson_0 rfl (lv_at hl 1 rfl) ?_
  refine lv_iconst (v := 0) hx hb dX12_isPerson_1 (by decide) ?_
  refine lv_aload_n hx hb dX12_isPerson_2 rfl (lv_at hl 0 rfl) ?_
  refine va_get (D := g.1) (ci := 10) (v := .ref (a 0)) (C := RX12) (T := TX12) (N := 20) hx hb hts izRX12 hown hK hP 0 rfl rfl 1 (by decide) (hts _ k815) (fun _ h9 => h9) rfl dX12_isPerson_3 ?_
  refine lv_iconst (v := 3) hx hb dX12_isPerson_6 (by decide) ?_
  refine va_iald hx hb hK hP 1 0 rfl rfl (zin rfl) dX12_isPerson_7 ?_
  refine zgq (r := fm 3) rfl (rM3 rfm) (fun x_1 hx_1 => ?_)
  refine lv_iconst (v := 1) hx hb dX12_isPerson_8 (by decide) ?_
  refine lv_isub hx hb dX12_isPerson_9 ?_
  refine zg3 (zsubK (i := x_1.toInt) (j := 1) (a' := (-1)) (b' := 7) rfl (by decide) hx_1.1 hx_1.2.1 (Int.le_refl _) (Int.le_refl _) (by decide)) (fun x_2 hx_2 => ?_)
  have hL0 : (0 : Int32).toInt = 0 := by decide
  refine mcallS' (g := g) (As := [.int x, .int 0, .int x_2]) (rest := []) St hK hT hA hP hD hS hl.1 [] [0] rfl rfl rfl (m_isIn l g x 0 x_2 ) (va_cwS 3 hts (zgL (zl3 k837 k838 k839) k826) rfl rfl rfl (by decide +kernel) ⟨Nat.le_of_ble_eq_true rfl, Nat.le_of_ble_eq_true rfl⟩) rfl rfl (Nat.le_of_ble_eq_true rfl) dX12_isPerson_10 ⟨(Nat.le_of_ble_eq_true rfl), (Nat.le_of_ble_eq_true rfl)⟩ (fun q_3 H locs hq4 hP hD hS => ?_)
  replace hq4 : (q_3 = 1 ∧ (0 : Int32).toInt ≤ x.toInt ∧ x.toInt ≤ x_2.toInt ∨ q_3 = 0 ∧ (x.toInt < (0 : Int32).toInt ∨ x_2.toInt < x.toInt)) := hq4
  have hP : va_P g.1 vwCl (List.flatten [bMo g o a th hi ac tp ba en tA fl de iD iO tU fm fk fa fc ft ff fb fi]) H := hP
  have hD : va_D A (List.flatten [bMo g o a th hi ac tp ba en tA fl de iD iO tU fm fk fa fc ft ff fb fi]) := hD
  refine W.widen (k := 0) (n := 0) (Nat.le_of_ble_eq_true rfl) (Nat.le_of_ble_eq_true rfl) ?_
  refine W.eq (g2 := F0 m 13 ls [.int q_3]) rfl ?_
  rcases hq4 with ⟨rfl, hq4_k⟩ | ⟨rfl, hq4_k⟩
  · skip
    have hP : va_P g.1 vwCl (List.flatten [bMo g o a th hi ac tp ba en tA fl de iD iO tU fm fk fa fc ft ff fb fi]) H := hP
    have hD : va_D A (List.flatten [bMo g o a th hi ac tp ba en tA fl de iD iO tU fm fk fa fc ft ff fb fi]) := hD
    exact mret_z hx hb hr hlocks hS (Nat.le_of_ble_eq_true rfl) (Nat.le_of_ble_eq_true rfl) dX12_isPerson_13 ((1 : Int32)) rfl (by decide) (show (1 = 1 ∧ 0 ≤ x.toInt ∧ x.toInt ≤ 7 ∧ x.toInt < (fm 3).toInt ∨ 1 = 0 ∧ ¬ (0 ≤ x.toInt ∧ x.toInt < (fm 3).toInt)) from (by first | exact Or.inl ⟨rfl, by omega⟩ | exact Or.inr ⟨rfl, by omega⟩)) hP hD
  · skip
    have hP : va_P g.1 vwCl (List.flatten [bMo g o a th hi ac tp ba en tA fl de iD iO tU fm fk fa fc ft ff fb fi]) H := hP
    have hD : va_D A (List.flatten [bMo g o a th hi ac tp ba en tA fl de iD iO tU fm fk fa fc ft ff fb fi]) := hD
    exact mret_z hx hb hr hlocks hS (Nat.le_of_ble_eq_true rfl) (Nat.le_of_ble_eq_true rfl) dX12_isPerson_13 ((0 : Int32)) rfl (by decide) (show (0 = 1 ∧ 0 ≤ x.toInt ∧ x.toInt ≤ 7 ∧ x.toInt < (fm 3).toInt ∨ 0 = 0 ∧ ¬ (0 ≤ x.toInt ∧ x.toInt < (fm 3).toInt)) from (by first | exact Or.inl ⟨rfl, by omega⟩ | exact Or.inr ⟨rfl, by omega⟩)) hP hD
set_option maxRecDepth 100000 in
set_option maxHeartbeats 4000000 in
theorem m_isWorkG (l : Launch) (g : zG) (o : Nat) (a : Nat → Nat) (th : Int32) (hi : Int32) (ac : Int32) (tp : Int32) (ba : Int32) (en : Int32) (tA : Int32) (fl : Int32) (de : Int32) (iD : Int32) (iO : Int32) (tU : Int32) (fm : Nat → Int32) (fk : Nat → Int32) (fa : Nat → Int32) (fc : Nat → Int32) (ft : Nat → Int32) (ff : Nat → Int32) (fb : Nat → Int32) (fi : Nat → Int32) (w : Int32) (rfm : rM fm) : zM' g l yX12_isWork (Cond.code yX12_isWork cX12_isWork 2 (some .boolean) :: zB) ({ frames := 1, cells := 0, slots := 0, locals := 22 } : Room) [.ref o, .int w] [bMo g o a th hi ac tp ba en tA fl de iD iO tU fm fk fa fc ft ff fb fi] (fun (q : Int32) => some (.int q)) (fun (q : Int32) => (q = 1 ∧ 0 ≤ w.toInt ∧ w.toInt ≤ 5 ∧ w.toInt < (fm 4).toInt ∨ q = 0 ∧ ¬ (0 ≤ w.toInt ∧ w.toInt < (fm 4).toInt))) (fun (q : Int32) => [bMo g o a th hi ac tp ba en tA fl de iD iO tU fm fk fa fc ft ff fb fi]) := by
  refine zM'.of (cc := cX12_isWork) (maxL := 2) (rt := (some .boolean)) (by decide) rfl (Nat.le_of_ble_eq_true rfl) ?_
  intro p e s m args below meth c A ls St hr hlocks hin hK hT hA hP hD hS hl
  obtain ⟨hx, hb, hml, hown, hts⟩ := id St
  have hl : lv_has ls 2 [(0, .ref o), (1, .int w)] := hl
  refine lv_iload_n hx hb dX12_isWork_0 rfl (lv_at hl 1 rfl) ?_
  refine lv_iconst (v := 0) hx hb dX12_isWork_1 (by decide) ?_
  refine lv_aload_n hx hb dX12_isWork_2 rfl (lv_at hl 0 rfl) ?_
  refine va_get (D := g.1) (ci := 10) (v := .ref (a 0)) (C := RX12) (T := TX12) (N := 20) hx hb hts izRX12 hown hK hP 0 rfl rfl 1 (by decide) (hts _ k815) (fun _ h9 => h9) rfl dX12_isWork_3 ?_
  refine lv_iconst (v := 4) hx hb dX12_isWork_6 (by decide) ?_
  refine va_iald hx hb hK hP 1 0 rfl rfl (zin rfl) dX12_isWork_7 ?_
  refine zgq (r := fm 4) rfl (rM4 rfm) (fun x_1 hx_1 => ?_)
  refine lv_iconst (v := 1) hx hb dX12_isWork_8 (by decide) ?_
  refine lv_isub hx hb dX12_isWork_9 ?_
  refine zg3 (zsubK (i := x_1.toInt) (j := 1) (a' := (-1)) (b' := 5) rfl (by decide) hx_1.1 hx_1.2.1 (Int.le_refl _) (Int.le_refl _) (by decide)) (fun x_2 hx_2 => ?_)
  have hL0 : (0 : Int32).toInt = 0 := by decide
  refine mcallS' (g := g) (As := [.int w, .int 0, .int x_2]) (rest := []) St hK hT hA hP hD hS hl.1 [] [0] rfl rfl rfl (m_isIn l g w 0 x_2 ) (va_cwS 3 hts (zgL (zl3 k837 k838 k839) k826) rfl rfl rfl (by decide +kernel) ⟨Nat.le_of_ble_eq_true rfl, Nat.le_of_ble_eq_true rfl⟩) rfl rfl (Nat.le_of_ble_eq_true rfl) dX12_isWork_10 ⟨(Nat.le_of_ble_eq_true rfl), (Nat.le_of_ble_eq_true rfl)⟩ (fun q_3 H locs hq4 hP hD hS => ?_)
  replace hq4 : (q_3 = 1 ∧ (0 : Int32).toInt ≤ w.toInt ∧ w.toInt ≤ x_2.toInt ∨ q_3 = 0 ∧ (w.toInt < (0 : Int32).toInt ∨ x_2.toInt < w.toInt)) := hq4
  have hP : va_P g.1 vwCl (List.flatten [bMo g o a th hi ac tp ba en tA fl de iD iO tU fm fk fa fc ft ff fb fi]) H := hP
  have hD : va_D A (List.flatten [bMo g o a th hi ac tp ba en tA fl de iD iO tU fm fk fa fc ft ff fb fi]) := hD
  refine W.widen (k := 0) (n := 0) (Nat.le_of_ble_eq_true rfl) (Nat.le_of_ble_eq_true rfl) ?_
  refine W.eq (g2 := F0 m 13 ls [.int q_3]) rfl ?_
  rcases hq4 with ⟨rfl, hq4_k⟩ | ⟨rfl, hq4_k⟩
  · skip
    have hP : va_P g.1 vwCl (List.flatten [bMo g o a th hi ac tp ba en tA fl de iD iO tU fm fk fa fc ft ff fb fi]) H := hP
    have hD : va_D A (List.flatten [bMo g o a th hi ac tp ba en tA fl de iD iO tU fm fk fa fc ft ff fb fi]) := hD
    exact mret_z hx hb hr hlocks hS (Nat.le_of_ble_eq_true rfl) (Nat.le_of_ble_eq_true rfl) dX12_isWork_13 ((1 : Int32)) rfl (by decide) (show (1 = 1 ∧ 0 ≤ w.toInt ∧ w.toInt ≤ 5 ∧ w.toInt < (fm 4).toInt ∨ 1 = 0 ∧ ¬ (0 ≤ w.toInt ∧ w.toInt < (fm 4).toInt)) from (by first | exact Or.inl ⟨rfl, by omega⟩ | exact Or.inr ⟨rfl, by omega⟩)) hP hD
  · skip
    have hP : va_P g.1 vwCl (List.flatten [bMo g o a th hi ac tp ba en tA fl de iD iO tU fm fk fa fc ft ff fb fi]) H := hP
    have hD : va_D A (List.flatten [bMo g o a th hi ac tp ba en tA fl de iD iO tU fm fk fa fc ft ff fb fi]) := hD
    exact mret_z hx hb hr hlocks hS (Nat.le_of_ble_eq_true rfl) (Nat.le_of_ble_eq_true rfl) dX12_isWork_13 ((0 : Int32)) rfl (by decide) (show (0 = 1 ∧ 0 ≤ w.toInt ∧ w.toInt ≤ 5 ∧ w.toInt < (fm 4).toInt ∨ 0 = 0 ∧ ¬ (0 ≤ w.toInt ∧ w.toInt < (fm 4).toInt)) from (by first | exact Or.inl ⟨rfl, by omega⟩ | exact Or.inr ⟨rfl, by omega⟩)) hP hD
set_option maxRecDepth 100000 in
set_option maxHeartbeats 4000000 in
theorem m_tellC (l : Launch) (g : zG) (o : Nat) (a : Nat → Nat) (th : Int32) (hi : Int32) (ac : Int32) (tp : Int32) (ba : Int32) (en : Int32) (tA : Int32) (fl : Int32) (de : Int32) (iD : Int32) (iO : Int32) (tU : Int32) (fm : Nat → Int32) (fk : Nat → Int32) (fa : Nat → Int32) (fc : Nat → Int32) (ft : Nat → Int32) (ff : Nat → Int32) (fb : Nat → Int32) (fi : Nat → Int32) (x : Int32) (rfm : rM fm) (rfc : rC fc) (hac : 0 ≤ ac.toInt ∧ ac.toInt ≤ 12) : zM' g l yX12_tell (Cond.code yX12_tell cX12_tell 2 (some .int) :: zB) ({ frames := 2, cells := 0, slots := 0, locals := 45 } : Room) [.ref o, .int x] [bMo g o a th hi ac tp ba en tA fl de iD iO tU fm fk fa fc ft ff fb fi] (fun u : Int32 × (Nat → Int32) × (Nat → Int32) × Int32 × Int32 => (fun (th2 : Int32) (fm2 : Nat → Int32) (fc2 : Nat → Int32) (ac2 : Int32) (q : Int32) => some (.int q)) (u.1) (u.2.1) (u.2.2.1) (u.2.2.2.1) (u.2.2.2.2)) (fun u : Int32 × (Nat → Int32) × (Nat → Int32) × Int32 × Int32 => (fun (th2 : Int32) (fm2 : Nat → Int32) (fc2 : Nat → Int32) (ac2 : Int32) (q : Int32) => (0 ≤ ac2.toInt ∧ ac2.toInt ≤ 12) ∧ (rC fc2) ∧ (rM fm2) ∧ (zX9 (th2, q, zM9 fm2) (zxTell x (zM9 fm))) ∧ (zMm th2 fc fc2 ac.toInt ac2.toInt fm) ∧ (zKl fm fm2)) (u.1) (u.2.1) (u.2.2.1) (u.2.2.2.1) (u.2.2.2.2)) (fun u : Int32 × (Nat → Int32) × (Nat → Int32) × Int32 × Int32 => (fun (th2 : Int32) (fm2 : Nat → Int32) (fc2 : Nat → Int32) (ac2 : Int32) (q : Int32) => [bMo g o a th2 hi ac2 tp ba en tA fl de iD iO tU fm2 fk fa fc2 ft ff fb fi]) (u.1) (u.2.1) (u.2.2.1) (u.2.2.2.1) (u.2.2.2.2)) := by
  refine zM'.of (cc := cX12_tell) (maxL := 2) (rt := (some .int)) (by decide) rfl (Nat.le_of_ble_eq_true rfl) ?_
  intro p e s m args below meth c A ls St hr hlocks hin hK hT hA hP hD hS hl
  obtain ⟨hx, hb, hml, hown, hts⟩ := id St
  have hl : lv_has ls 2 [(0, .ref o), (1, .int x)] := hl
  have hrm3 := rM3 rfm
  have hrm4 := rM4 rfm
  refine lv_aload_n hx hb dX12_tell_0 rfl (lv_at hl 0 rfl) ?_
  refine lv_aload_n hx hb dX12_tell_1 rfl (lv_at hl 0 rfl) ?_
  refine lv_iload_n hx hb dX12_tell_2 rfl (lv_at hl 1 rfl) ?_
  refine mcallV' (g := g) (q0 := 0) (ci := 10) (As := [.int x]) (rest := [.ref o]) St hK hT hA hP hD hS hl.1 [0] [] rfl rfl rfl (m_isPersonG l g o a th hi ac tp ba en tA fl de iD iO tU fm fk fa fc ft ff fb fi x rfm) (cwV 1 hts (zgL (zl4 k1033 k1034 k1035 k839) k836) rfl rfl rfl (by decide +kernel) ⟨Nat.le_of_ble_eq_true rfl, Nat.le_of_ble_eq_true rfl⟩) rfl rfl rfl rfl (Nat.le_of_ble_eq_true rfl) dX12_tell_3 ⟨(Nat.le_of_ble_eq_true rfl), (Nat.le_of_ble_eq_true rfl)⟩ (fun q_1 H locs hq2 hP hD hS => ?_)
  replace hq2 : (q_1 = 1 ∧ 0 ≤ x.toInt ∧ x.toInt ≤ 7 ∧ x.toInt < (fm 3).toInt ∨ q_1 = 0 ∧ ¬ (0 ≤ x.toInt ∧ x.toInt < (fm 3).toInt)) := hq2
  have hP : va_P g.1 vwCl (List.flatten [bMo g o a th hi ac tp ba en tA fl de iD iO tU fm fk fa fc ft ff fb fi]) H := hP
  have hD : va_D A (List.flatten [bMo g o a th hi ac tp ba en tA fl de iD iO tU fm fk fa fc ft ff fb fi]) := hD
  refine W.widen (k := 0) (n := 0) (Nat.le_of_ble_eq_true rfl) (Nat.le_of_ble_eq_true rfl) ?_
  refine W.eq (g2 := F0 m 6 ls [.int q_1, .ref o]) rfl ?_
  rcases hq2 with ⟨rfl, hq2_k⟩ | ⟨rfl, hq2_k⟩
  · skip
    refine lv_if_ne (tgt := 13) hx hb dX12_tell_6 (by decide) (fun _ => ?_) (fun c3 => absurd c3 (by decide))
    refine lv_aload_n hx hb dX12_tell_13 rfl (lv_at hl 0 rfl) ?_
    refine lv_iload_n hx hb dX12_tell_14 rfl (lv_at hl 1 rfl) ?_
    refine mcallV' (g := g) (q0 := 0) (ci := 10) (As := [.int x]) (rest := [.ref o]) St hK hT hA hP hD hS hl.1 [0] [] rfl rfl rfl (m_isHereG l g o a th hi ac tp ba en tA fl de iD iO tU fm fk fa fc ft ff fb fi x (by first | assumption | omega | decide | exact Or.inl (by decide) | exact Or.inr (by decide))) (cwV 1 hts (zgL (zl4 k846 k847 k848 k839) k841) rfl rfl rfl (by decide +kernel) ⟨Nat.le_of_ble_eq_true rfl, Nat.le_of_ble_eq_true rfl⟩) rfl rfl rfl rfl (Nat.le_of_ble_eq_true rfl) dX12_tell_15 ⟨(Nat.le_of_ble_eq_true rfl), (Nat.le_of_ble_eq_true rfl)⟩ (fun q_4 H locs hq5 hP hD hS => ?_)
    replace hq5 : (q_4 = 1 ∧ (zV fm 3 x.toInt.toNat).toInt = -1 ∨ q_4 = 0 ∧ ¬ (zV fm 3 x.toInt.toNat).toInt = -1) := hq5
    have hP : va_P g.1 vwCl (List.flatten [bMo g o a th hi ac tp ba en tA fl de iD iO tU fm fk fa fc ft ff fb fi]) H := hP
    have hD : va_D A (List.flatten [bMo g o a th hi ac tp ba en tA fl de iD iO tU fm fk fa fc ft ff fb fi]) := hD
    refine W.widen (k := 0) (n := 0) (Nat.le_of_ble_eq_true rfl) (Nat.le_of_ble_eq_true rfl) ?_
    refine W.eq (g2 := F0 m 18 ls [.int q_4, .ref o]) rfl ?_
    rcases hq5 with ⟨rfl, hq5_k⟩ | ⟨rfl, hq5_k⟩
    · skip
      refine lv_if_ne (tgt := 25) hx hb dX12_tell_18 (by decide) (fun _ => ?_) (fun c6 => absurd c6 (by decide))
      refine lv_iconst (v := 0) hx hb dX12_tell_25 (by decide) ?_
      refine va_put (D := g.1) (ci := 10) (v := .int 0) (ty := .int) (C := RX12) (T := TX12) (N := 20) hx hb hts izRX12 tyX12 tyX12_ok nmX12 hown hK hP hD hS 0 rfl rfl 0 (by decide) (hts _ k825) (fun _ h9 => h9) rfl (by decide +kernel) rfl rfl (Nat.le_of_ble_eq_true rfl) dX12_tell_26 (fun H locs hP hD hS => ?_)
      have hP : va_P g.1 vwCl (List.flatten [bMo g o a 0 hi ac tp ba en tA fl de iD iO tU fm fk fa fc ft ff fb fi]) H := hP
      have hD : va_D A (List.flatten [bMo g o a 0 hi ac tp ba en tA fl de iD iO tU fm fk fa fc ft ff fb fi]) := hD
      refine lv_aload_n hx hb dX12_tell_29 rfl (lv_at hl 0 rfl) ?_
      refine va_get (D := g.1) (ci := 10) (v := .int 0) (C := RX12) (T := TX12) (N := 20) hx hb hts izRX12 hown hK hP 0 rfl rfl 0 (by decide) (hts _ k825) (fun _ h9 => h9) rfl dX12_tell_30 ?_
      refine lv_if_le (tgt := 38) hx hb dX12_tell_33 (by decide) (fun _ => ?_) (fun c7 => absurd (by decide) c7)
      refine lv_aload_n hx hb dX12_tell_38 rfl (lv_at hl 0 rfl) ?_
      refine mcallV' (g := g) (q0 := 0) (ci := 10) (As := []) (rest := []) St hK hT hA hP hD hS hl.1 [0] [] rfl rfl rfl (m_remembers l g o a 0 hi ac tp ba en tA fl de iD iO tU fm fk fa fc ft ff fb fi rfm rfc hac) (cwV 0 hts (zgL (zl4 k1047 k1048 k1049 k839) k1046) rfl rfl rfl (by decide +kernel) ⟨Nat.le_of_ble_eq_true rfl, Nat.le_of_ble_eq_true rfl⟩) rfl rfl rfl rfl (Nat.le_of_ble_eq_true rfl) dX12_tell_39 ⟨(Nat.le_of_ble_eq_true rfl), (Nat.le_of_ble_eq_true rfl)⟩ (fun u_ H locs hq10 hP hD hS => ?_)
      obtain ⟨ac2_8, fc2_9⟩ := u_
      replace hq10 : (rC fc2_9) ∧ (0 ≤ ac2_8.toInt ∧ ac2_8.toInt ≤ 12) ∧ (zRem fc fc2_9 ac.toInt ac2_8.toInt fm) := hq10
      have hP : va_P g.1 vwCl (List.flatten [bMo g o a 0 hi ac2_8 tp ba en tA fl de iD iO tU fm fk fa fc2_9 ft ff fb fi]) H := hP
      have hD : va_D A (List.flatten [bMo g o a 0 hi ac2_8 tp ba en tA fl de iD iO tU fm fk fa fc2_9 ft ff fb fi]) := hD
      refine W.widen (k := 0) (n := 0) (Nat.le_of_ble_eq_true rfl) (Nat.le_of_ble_eq_true rfl) ?_
      refine W.eq (g2 := F0 m 42 ls []) rfl ?_
      obtain ⟨rfc2_9, hq10_1, hq10_2⟩ := hq10
      refine lv_aload_n hx hb dX12_tell_42 rfl (lv_at hl 0 rfl) ?_
      refine lv_iload_n hx hb dX12_tell_43 rfl (lv_at hl 1 rfl) ?_
      refine lv_bipush (v := 20) hx hb dX12_tell_44 (by decide) ?_
      refine mcallV' (g := g) (q0 := 0) (ci := 10) (As := [.int x, .int 20]) (rest := []) St hK hT hA hP hD hS hl.1 [0] [] rfl rfl rfl (m_believesG l g o a 0 hi ac2_8 tp ba en tA fl de iD iO tU fm fk fa fc2_9 ft ff fb fi x 20 rfm (by first | assumption | omega | decide | exact Or.inl (by decide) | exact Or.inr (by decide))) (cwV 2 hts (zgL (zl4 k1012 k1013 k1014 k839) k1002) rfl rfl rfl (by decide +kernel) ⟨Nat.le_of_ble_eq_true rfl, Nat.le_of_ble_eq_true rfl⟩) rfl rfl rfl rfl (Nat.le_of_ble_eq_true rfl) dX12_tell_46 ⟨(Nat.le_of_ble_eq_true rfl), (Nat.le_of_ble_eq_true rfl)⟩ (fun fm2_11 H locs hq12 hP hD hS => ?_)
      replace hq12 : (rM fm2_11) ∧ (fm2_11 = upd fm (11 + 5 * x.toInt.toNat) (zCl (zV fm 0 x.toInt.toNat + 20))) := hq12
      have hP : va_P g.1 vwCl (List.flatten [bMo g o a 0 hi ac2_8 tp ba en tA fl de iD iO tU fm2_11 fk fa fc2_9 ft ff fb fi]) H := hP
      have hD : va_D A (List.flatten [bMo g o a 0 hi ac2_8 tp ba en tA fl de iD iO tU fm2_11 fk fa fc2_9 ft ff fb fi]) := hD
      refine W.widen (k := 0) (n := 0) (Nat.le_of_ble_eq_true rfl) (Nat.le_of_ble_eq_true rfl) ?_
      refine W.eq (g2 := F0 m 49 ls []) rfl ?_
      obtain ⟨rfm2_11, hq12_1⟩ := hq12
      refine lv_aload_n hx hb dX12_tell_49 rfl (lv_at hl 0 rfl) ?_
      refine lv_iload_n hx hb dX12_tell_50 rfl (lv_at hl 1 rfl) ?_
      refine lv_iconst (v := 0) hx hb dX12_tell_51 (by decide) ?_
      refine mcallV' (g := g) (q0 := 0) (ci := 10) (As := [.int x, .int 0]) (rest := []) St hK hT hA hP hD hS hl.1 [0] [] rfl rfl rfl (m_of0F l g o a 0 hi ac2_8 tp ba en tA fl de iD iO tU fm2_11 fk fa fc2_9 ft ff fb fi x (by first | assumption | omega | decide | exact Or.inl (by decide) | exact Or.inr (by decide))) (cwV 2 hts (zgL (zl4 k842 k843 k844 k839) k831) rfl rfl rfl (by decide +kernel) ⟨Nat.le_of_ble_eq_true rfl, Nat.le_of_ble_eq_true rfl⟩) rfl rfl rfl rfl (Nat.le_of_ble_eq_true rfl) dX12_tell_52 ⟨(Nat.le_of_ble_eq_true rfl), (Nat.le_of_ble_eq_true rfl)⟩ (fun _u H locs hq13 hP hD hS => ?_)
      have hP : va_P g.1 vwCl (List.flatten [bMo g o a 0 hi ac2_8 tp ba en tA fl de iD iO tU fm2_11 fk fa fc2_9 ft ff fb fi]) H := hP
      have hD : va_D A (List.flatten [bMo g o a 0 hi ac2_8 tp ba en tA fl de iD iO tU fm2_11 fk fa fc2_9 ft ff fb fi]) := hD
      refine W.widen (k := 0) (n := 0) (Nat.le_of_ble_eq_true rfl) (Nat.le_of_ble_eq_true rfl) ?_
      refine W.eq (g2 := F0 m 55 ls [.int (zV fm2_11 0 x.toInt.toNat)]) rfl ?_
      have hP : va_P g.1 vwCl (List.flatten [bMo g o a 0 hi ac2_8 tp ba en tA fl de iD iO tU fm2_11 fk fa fc2_9 ft ff fb fi]) H := hP
      have hD : va_D A (List.flatten [bMo g o a 0 hi ac2_8 tp ba en tA fl de iD iO tU fm2_11 fk fa fc2_9 ft ff fb fi]) := hD
      exact mret_i hx hb hr hlocks hS (Nat.le_of_ble_eq_true rfl) (Nat.le_of_ble_eq_true rfl) dX12_tell_55 ((0 : Int32), fm2_11, fc2_9, ac2_8, zV fm2_11 0 x.toInt.toNat) rfl (show (0 ≤ ac2_8.toInt ∧ ac2_8.toInt ≤ 12) ∧ (rC fc2_9) ∧ (rM fm2_11) ∧ (zX9 (0, (zV fm2_11 0 x.toInt.toNat), zM9 fm2_11) (zxTell x (zM9 fm))) ∧ (zMm 0 fc fc2_9 ac.toInt ac2_8.toInt fm) ∧ (zKl fm fm2_11) from ⟨(by first | assumption | omega | decide), (by first | assumption | omega | decide), (by first | assumption | omega | decide), (zxTell_m (by omega) (by omega) (by omega) hq12_1), (zMm_y (by decide) hq10_2), (zKl_u (zKl_r _) hq12_1 (by omega))⟩) hP hD
    · skip
      refine lv_if_ne (tgt := 25) hx hb dX12_tell_18 (by decide) (fun c14 => absurd (by decide) c14) (fun _ => ?_)
      refine lv_iconst (v := 2) hx hb dX12_tell_21 (by decide) ?_
      refine lv_goto (tgt := 26) hx hb dX12_tell_22 (by decide) ?_
      refine va_put (D := g.1) (ci := 10) (v := .int 2) (ty := .int) (C := RX12) (T := TX12) (N := 20) hx hb hts izRX12 tyX12 tyX12_ok nmX12 hown hK hP hD hS 0 rfl rfl 0 (by decide) (hts _ k825) (fun _ h9 => h9) rfl (by decide +kernel) rfl rfl (Nat.le_of_ble_eq_true rfl) dX12_tell_26 (fun H locs hP hD hS => ?_)
      have hP : va_P g.1 vwCl (List.flatten [bMo g o a 2 hi ac tp ba en tA fl de iD iO tU fm fk fa fc ft ff fb fi]) H := hP
      have hD : va_D A (List.flatten [bMo g o a 2 hi ac tp ba en tA fl de iD iO tU fm fk fa fc ft ff fb fi]) := hD
      refine lv_aload_n hx hb dX12_tell_29 rfl (lv_at hl 0 rfl) ?_
      refine va_get (D := g.1) (ci := 10) (v := .int 2) (C := RX12) (T := TX12) (N := 20) hx hb hts izRX12 hown hK hP 0 rfl rfl 0 (by decide) (hts _ k825) (fun _ h9 => h9) rfl dX12_tell_30 ?_
      refine lv_if_le (tgt := 38) hx hb dX12_tell_33 (by decide) (fun c15 => absurd c15 (by decide)) (fun _ => ?_)
      refine lv_iconst (v := 0) hx hb dX12_tell_36 (by decide) ?_
      have hP : va_P g.1 vwCl (List.flatten [bMo g o a 2 hi ac tp ba en tA fl de iD iO tU fm fk fa fc ft ff fb fi]) H := hP
      have hD : va_D A (List.flatten [bMo g o a 2 hi ac tp ba en tA fl de iD iO tU fm fk fa fc ft ff fb fi]) := hD
      exact mret_i hx hb hr hlocks hS (Nat.le_of_ble_eq_true rfl) (Nat.le_of_ble_eq_true rfl) dX12_tell_37 ((2 : Int32), fm, fc, ac, (0 : Int32)) rfl (show (0 ≤ ac.toInt ∧ ac.toInt ≤ 12) ∧ (rC fc) ∧ (rM fm) ∧ (zX9 (2, 0, zM9 fm) (zxTell x (zM9 fm))) ∧ (zMm 2 fc fc ac.toInt ac.toInt fm) ∧ (zKl fm fm) from ⟨(by first | assumption | omega | decide), (by first | assumption | omega | decide), (by first | assumption | omega | decide), (zxTell_m2 (by omega) (by omega)), (zMm_n (by decide)), (zKl_r _)⟩) hP hD
  · skip
    refine lv_if_ne (tgt := 13) hx hb dX12_tell_6 (by decide) (fun c16 => absurd (by decide) c16) (fun _ => ?_)
    refine lv_iconst (v := 1) hx hb dX12_tell_9 (by decide) ?_
    refine lv_goto (tgt := 26) hx hb dX12_tell_10 (by decide) ?_
    refine va_put (D := g.1) (ci := 10) (v := .int 1) (ty := .int) (C := RX12) (T := TX12) (N := 20) hx hb hts izRX12 tyX12 tyX12_ok nmX12 hown hK hP hD hS 0 rfl rfl 0 (by decide) (hts _ k825) (fun _ h9 => h9) rfl (by decide +kernel) rfl rfl (Nat.le_of_ble_eq_true rfl) dX12_tell_26 (fun H locs hP hD hS => ?_)
    have hP : va_P g.1 vwCl (List.flatten [bMo g o a 1 hi ac tp ba en tA fl de iD iO tU fm fk fa fc ft ff fb fi]) H := hP
    have hD : va_D A (List.flatten [bMo g o a 1 hi ac tp ba en tA fl de iD iO tU fm fk fa fc ft ff fb fi]) := hD
    refine lv_aload_n hx hb dX12_tell_29 rfl (lv_at hl 0 rfl) ?_
    refine va_get (D := g.1) (ci := 10) (v := .int 1) (C := RX12) (T := TX12) (N := 20) hx hb hts izRX12 hown hK hP 0 rfl rfl 0 (by decide) (hts _ k825) (fun _ h9 => h9) rfl dX12_tell_30 ?_
    refine lv_if_le (tgt := 38) hx hb dX12_tell_33 (by decide) (fun c17 => absurd c17 (by decide)) (fun _ => ?_)
    refine lv_iconst (v := 0) hx hb dX12_tell_36 (by decide) ?_
    have hP : va_P g.1 vwCl (List.flatten [bMo g o a 1 hi ac tp ba en tA fl de iD iO tU fm fk fa fc ft ff fb fi]) H := hP
    have hD : va_D A (List.flatten [bMo g o a 1 hi ac tp ba en tA fl de iD iO tU fm fk fa fc ft ff fb fi]) := hD
    exact mret_i hx hb hr hlocks hS (Nat.le_of_ble_eq_true rfl) (Nat.le_of_ble_eq_true rfl) dX12_tell_37 ((1 : Int32), fm, fc, ac, (0 : Int32)) rfl (show (0 ≤ ac.toInt ∧ ac.toInt ≤ 12) ∧ (rC fc) ∧ (rM fm) ∧ (zX9 (1, 0, zM9 fm) (zxTell x (zM9 fm))) ∧ (zMm 1 fc fc ac.toInt ac.toInt fm) ∧ (zKl fm fm) from ⟨(by first | assumption | omega | decide), (by first | assumption | omega | decide), (by first | assumption | omega | decide), (zxTell_m1 (by omega)), (zMm_n (by decide)), (zKl_r _)⟩) hP hD
set_option maxRecDepth 100000 in
set_option maxHeartbeats 4000000 in
theorem m_tieC (l : Launch) (g : zG) (o : Nat) (a : Nat → Nat) (th : Int32) (hi : Int32) (ac : Int32) (tp : Int32) (ba : Int32) (en : Int32) (tA : Int32) (fl : Int32) (de : Int32) (iD : Int32) (iO : Int32) (tU : Int32) (fm : Nat → Int32) (fk : Nat → Int32) (fa : Nat → Int32) (fc : Nat → Int32) (ft : Nat → Int32) (ff : Nat → Int32) (fb : Nat → Int32) (fi : Nat → Int32) (x : Int32) (o2 : Int32) (n : Int32) (rfm : rM fm) (rfc : rC fc) (hac : 0 ≤ ac.toInt ∧ ac.toInt ≤ 12) : zM' g l yX12_tie (Cond.code yX12_tie cX12_tie 5 (some .int) :: zB) ({ frames := 2, cells := 0, slots := 0, locals := 43 } : Room) [.ref o, .int x, .int o2, .int n] [bMo g o a th hi ac tp ba en tA fl de iD iO tU fm fk fa fc ft ff fb fi] (fun u : Int32 × (Nat → Int32) × (Nat → Int32) × Int32 × Int32 => (fun (th2 : Int32) (fm2 : Nat → Int32) (fc2 : Nat → Int32) (ac2 : Int32) (q : Int32) => some (.int q)) (u.1) (u.2.1) (u.2.2.1) (u.2.2.2.1) (u.2.2.2.2)) (fun u : Int32 × (Nat → Int32) × (Nat → Int32) × Int32 × Int32 => (fun (th2 : Int32) (fm2 : Nat → Int32) (fc2 : Nat → Int32) (ac2 : Int32) (q : Int32) => (0 ≤ ac2.toInt ∧ ac2.toInt ≤ 12) ∧ (rC fc2) ∧ (rM fm2) ∧ (zX9 (th2, q, zM9 fm2) (zxTie x o2 n (zM9 fm))) ∧ (zMm th2 fc fc2 ac.toInt ac2.toInt fm) ∧ (zKl fm fm2)) (u.1) (u.2.1) (u.2.2.1) (u.2.2.2.1) (u.2.2.2.2)) (fun u : Int32 × (Nat → Int32) × (Nat → Int32) × Int32 × Int32 => (fun (th2 : Int32) (fm2 : Nat → Int32) (fc2 : Nat → Int32) (ac2 : Int32) (q : Int32) => [bMo g o a th2 hi ac2 tp ba en tA fl de iD iO tU fm2 fk fa fc2 ft ff fb fi]) (u.1) (u.2.1) (u.2.2.1) (u.2.2.2.1) (u.2.2.2.2)) := by
  refine zM'.of (cc := cX12_tie) (maxL := 5) (rt := (some .int)) (by decide) rfl (Nat.le_of_ble_eq_true rfl) ?_
  intro p e s m args below meth c A ls St hr hlocks hin hK hT hA hP hD hS hl
  obtain ⟨hx, hb, hml, hown, hts⟩ := id St
  have hl : lv_has ls 5 [(0, .ref o), (1, .int x), (2, .int o2), (3, .int n)] := hl
  have hrm3 := rM3 rfm
  have hrm4 := rM4 rfm
  refine lv_aload_n hx hb dX12_tie_0 rfl (lv_at hl 0 rfl) ?_
  refine lv_aload_n hx hb dX12_tie_1 rfl (lv_at hl 0 rfl) ?_
  refine lv_iload_n hx hb dX12_tie_2 rfl (lv_at hl 1 rfl) ?_
  refine mcallV' (g := g) (q0 := 0) (ci := 10) (As := [.int x]) (rest := [.ref o]) St hK hT hA hP hD hS hl.1 [0] [] rfl rfl rfl (m_isPersonG l g o a th hi ac tp ba en tA fl de iD iO tU fm fk fa fc ft ff fb fi x rfm) (cwV 1 hts (zgL (zl4 k1033 k1034 k1035 k839) k836) rfl rfl rfl (by decide +kernel) ⟨Nat.le_of_ble_eq_true rfl, Nat.le_of_ble_eq_true rfl⟩) rfl rfl rfl rfl (Nat.le_of_ble_eq_true rfl) dX12_tie_3 ⟨(Nat.le_of_ble_eq_true rfl), (Nat.le_of_ble_eq_true rfl)⟩ (fun q_1 H locs hq2 hP hD hS => ?_)
  replace hq2 : (q_1 = 1 ∧ 0 ≤ x.toInt ∧ x.toInt ≤ 7 ∧ x.toInt < (fm 3).toInt ∨ q_1 = 0 ∧ ¬ (0 ≤ x.toInt ∧ x.toInt < (fm 3).toInt)) := hq2
  have hP : va_P g.1 vwCl (List.flatten [bMo g o a th hi ac tp ba en tA fl de iD iO tU fm fk fa fc ft ff fb fi]) H := hP
  have hD : va_D A (List.flatten [bMo g o a th hi ac tp ba en tA fl de iD iO tU fm fk fa fc ft ff fb fi]) := hD
  refine W.widen (k := 0) (n := 0) (Nat.le_of_ble_eq_true rfl) (Nat.le_of_ble_eq_true rfl) ?_
  refine W.eq (g2 := F0 m 6 ls [.int q_1, .ref o]) rfl ?_
  rcases hq2 with ⟨rfl, hq2_k⟩ | ⟨rfl, hq2_k⟩
  · skip
    refine lv_if_eq (tgt := 17) hx hb dX12_tie_6 (by decide) (fun c3 => absurd c3 (by decide)) (fun _ => ?_)
    refine lv_aload_n hx hb dX12_tie_9 rfl (lv_at hl 0 rfl) ?_
    refine lv_iload_n hx hb dX12_tie_10 rfl (lv_at hl 2 rfl) ?_
    refine mcallV' (g := g) (q0 := 0) (ci := 10) (As := [.int o2]) (rest := [.ref o]) St hK hT hA hP hD hS hl.1 [0] [] rfl rfl rfl (m_isPersonG l g o a th hi ac tp ba en tA fl de iD iO tU fm fk fa fc ft ff fb fi o2 rfm) (cwV 1 hts (zgL (zl4 k1033 k1034 k1035 k839) k836) rfl rfl rfl (by decide +kernel) ⟨Nat.le_of_ble_eq_true rfl, Nat.le_of_ble_eq_true rfl⟩) rfl rfl rfl rfl (Nat.le_of_ble_eq_true rfl) dX12_tie_11 ⟨(Nat.le_of_ble_eq_true rfl), (Nat.le_of_ble_eq_true rfl)⟩ (fun q_4 H locs hq5 hP hD hS => ?_)
    replace hq5 : (q_4 = 1 ∧ 0 ≤ o2.toInt ∧ o2.toInt ≤ 7 ∧ o2.toInt < (fm 3).toInt ∨ q_4 = 0 ∧ ¬ (0 ≤ o2.toInt ∧ o2.toInt < (fm 3).toInt)) := hq5
    have hP : va_P g.1 vwCl (List.flatten [bMo g o a th hi ac tp ba en tA fl de iD iO tU fm fk fa fc ft ff fb fi]) H := hP
    have hD : va_D A (List.flatten [bMo g o a th hi ac tp ba en tA fl de iD iO tU fm fk fa fc ft ff fb fi]) := hD
    refine W.widen (k := 0) (n := 0) (Nat.le_of_ble_eq_true rfl) (Nat.le_of_ble_eq_true rfl) ?_
    refine W.eq (g2 := F0 m 14 ls [.int q_4, .ref o]) rfl ?_
    rcases hq5 with ⟨rfl, hq5_k⟩ | ⟨rfl, hq5_k⟩
    · skip
      refine lv_if_ne (tgt := 21) hx hb dX12_tie_14 (by decide) (fun _ => ?_) (fun c6 => absurd c6 (by decide))
      refine lv_iload_n hx hb dX12_tie_21 rfl (lv_at hl 1 rfl) ?_
      refine lv_iload_n hx hb dX12_tie_22 rfl (lv_at hl 2 rfl) ?_
      refine lv_icmp_eq (tgt := 36) hx hb dX12_tie_23 (by decide) (fun cb9 => ?_) (fun cb9 => ?_)
      · skip
        have c7 : x.toInt = o2.toInt := zeq cb9 rfl rfl
        refine lv_iconst (v := 2) hx hb dX12_tie_36 (by decide) ?_
        refine lv_goto (tgt := 41) hx hb dX12_tie_37 (by decide) ?_
        refine va_put (D := g.1) (ci := 10) (v := .int 2) (ty := .int) (C := RX12) (T := TX12) (N := 20) hx hb hts izRX12 tyX12 tyX12_ok nmX12 hown hK hP hD hS 0 rfl rfl 0 (by decide) (hts _ k825) (fun _ h9 => h9) rfl (by decide +kernel) rfl rfl (Nat.le_of_ble_eq_true rfl) dX12_tie_41 (fun H locs hP hD hS => ?_)
        have hP : va_P g.1 vwCl (List.flatten [bMo g o a 2 hi ac tp ba en tA fl de iD iO tU fm fk fa fc ft ff fb fi]) H := hP
        have hD : va_D A (List.flatten [bMo g o a 2 hi ac tp ba en tA fl de iD iO tU fm fk fa fc ft ff fb fi]) := hD
        refine lv_aload_n hx hb dX12_tie_44 rfl (lv_at hl 0 rfl) ?_
        refine va_get (D := g.1) (ci := 10) (v := .int 2) (C := RX12) (T := TX12) (N := 20) hx hb hts izRX12 hown hK hP 0 rfl rfl 0 (by decide) (hts _ k825) (fun _ h9 => h9) rfl dX12_tie_45 ?_
        refine lv_if_le (tgt := 53) hx hb dX12_tie_48 (by decide) (fun c8 => absurd c8 (by decide)) (fun _ => ?_)
        refine lv_iconst (v := 0) hx hb dX12_tie_51 (by decide) ?_
        have hP : va_P g.1 vwCl (List.flatten [bMo g o a 2 hi ac tp ba en tA fl de iD iO tU fm fk fa fc ft ff fb fi]) H := hP
        have hD : va_D A (List.flatten [bMo g o a 2 hi ac tp ba en tA fl de iD iO tU fm fk fa fc ft ff fb fi]) := hD
        exact mret_i hx hb hr hlocks hS (Nat.le_of_ble_eq_true rfl) (Nat.le_of_ble_eq_true rfl) dX12_tie_52 ((2 : Int32), fm, fc, ac, (0 : Int32)) rfl (show (0 ≤ ac.toInt ∧ ac.toInt ≤ 12) ∧ (rC fc) ∧ (rM fm) ∧ (zX9 (2, 0, zM9 fm) (zxTie x o2 n (zM9 fm))) ∧ (zMm 2 fc fc ac.toInt ac.toInt fm) ∧ (zKl fm fm) from ⟨(by first | assumption | omega | decide), (by first | assumption | omega | decide), (by first | assumption | omega | decide), (zxTie_m2 (by omega) (by omega)), (zMm_n (by decide)), (zKl_r _)⟩) hP hD
      · skip
        have c9 : ¬ x.toInt = o2.toInt := zne cb9 rfl rfl
        refine lv_iload_n hx hb dX12_tie_26 rfl (lv_at hl 3 rfl) ?_
        refine lv_iconst (v := 0) hx hb dX12_tie_27 (by decide) ?_
        refine lv_bipush (v := 9) hx hb dX12_tie_28 (by decide) ?_
        have hL0 : (0 : Int32).toInt = 0 := by decide
        have hL9 : (9 : Int32).toInt = 9 := by decide
        refine mcallS' (g := g) (As := [.int n, .int 0, .int 9]) (rest := [.ref o]) St hK hT hA hP hD hS hl.1 [] [0] rfl rfl rfl (m_isIn l g n 0 9 ) (va_cwS 3 hts (zgL (zl3 k837 k838 k839) k826) rfl rfl rfl (by decide +kernel) ⟨Nat.le_of_ble_eq_true rfl, Nat.le_of_ble_eq_true rfl⟩) rfl rfl (Nat.le_of_ble_eq_true rfl) dX12_tie_30 ⟨(Nat.le_of_ble_eq_true rfl), (Nat.le_of_ble_eq_true rfl)⟩ (fun q_10 H locs hq11 hP hD hS => ?_)
        replace hq11 : (q_10 = 1 ∧ (0 : Int32).toInt ≤ n.toInt ∧ n.toInt ≤ (9 : Int32).toInt ∨ q_10 = 0 ∧ (n.toInt < (0 : Int32).toInt ∨ (9 : Int32).toInt < n.toInt)) := hq11
        have hP : va_P g.1 vwCl (List.flatten [bMo g o a th hi ac tp ba en tA fl de iD iO tU fm fk fa fc ft ff fb fi]) H := hP
        have hD : va_D A (List.flatten [bMo g o a th hi ac tp ba en tA fl de iD iO tU fm fk fa fc ft ff fb fi]) := hD
        refine W.widen (k := 0) (n := 0) (Nat.le_of_ble_eq_true rfl) (Nat.le_of_ble_eq_true rfl) ?_
        refine W.eq (g2 := F0 m 33 ls [.int q_10, .ref o]) rfl ?_
        rcases hq11 with ⟨rfl, hq11_k⟩ | ⟨rfl, hq11_k⟩
        · skip
          refine lv_if_ne (tgt := 40) hx hb dX12_tie_33 (by decide) (fun _ => ?_) (fun c12 => absurd c12 (by decide))
          refine lv_iconst (v := 0) hx hb dX12_tie_40 (by decide) ?_
          refine va_put (D := g.1) (ci := 10) (v := .int 0) (ty := .int) (C := RX12) (T := TX12) (N := 20) hx hb hts izRX12 tyX12 tyX12_ok nmX12 hown hK hP hD hS 0 rfl rfl 0 (by decide) (hts _ k825) (fun _ h9 => h9) rfl (by decide +kernel) rfl rfl (Nat.le_of_ble_eq_true rfl) dX12_tie_41 (fun H locs hP hD hS => ?_)
          have hP : va_P g.1 vwCl (List.flatten [bMo g o a 0 hi ac tp ba en tA fl de iD iO tU fm fk fa fc ft ff fb fi]) H := hP
          have hD : va_D A (List.flatten [bMo g o a 0 hi ac tp ba en tA fl de iD iO tU fm fk fa fc ft ff fb fi]) := hD
          refine lv_aload_n hx hb dX12_tie_44 rfl (lv_at hl 0 rfl) ?_
          refine va_get (D := g.1) (ci := 10) (v := .int 0) (C := RX12) (T := TX12) (N := 20) hx hb hts izRX12 hown hK hP 0 rfl rfl 0 (by decide) (hts _ k825) (fun _ h9 => h9) rfl dX12_tie_45 ?_
          refine lv_if_le (tgt := 53) hx hb dX12_tie_48 (by decide) (fun _ => ?_) (fun c13 => absurd (by decide) c13)
          refine lv_aload_n hx hb dX12_tie_53 rfl (lv_at hl 0 rfl) ?_
          refine mcallV' (g := g) (q0 := 0) (ci := 10) (As := []) (rest := []) St hK hT hA hP hD hS hl.1 [0] [] rfl rfl rfl (m_remembers l g o a 0 hi ac tp ba en tA fl de iD iO tU fm fk fa fc ft ff fb fi rfm rfc hac) (cwV 0 hts (zgL (zl4 k1047 k1048 k1049 k839) k1046) rfl rfl rfl (by decide +kernel) ⟨Nat.le_of_ble_eq_true rfl, Nat.le_of_ble_eq_true rfl⟩) rfl rfl rfl rfl (Nat.le_of_ble_eq_true rfl) dX12_tie_54 ⟨(Nat.le_of_ble_eq_true rfl), (Nat.le_of_ble_eq_true rfl)⟩ (fun u_ H locs hq16 hP hD hS => ?_)
          obtain ⟨ac2_14, fc2_15⟩ := u_
          replace hq16 : (rC fc2_15) ∧ (0 ≤ ac2_14.toInt ∧ ac2_14.toInt ≤ 12) ∧ (zRem fc fc2_15 ac.toInt ac2_14.toInt fm) := hq16
          have hP : va_P g.1 vwCl (List.flatten [bMo g o a 0 hi ac2_14 tp ba en tA fl de iD iO tU fm fk fa fc2_15 ft ff fb fi]) H := hP
          have hD : va_D A (List.flatten [bMo g o a 0 hi ac2_14 tp ba en tA fl de iD iO tU fm fk fa fc2_15 ft ff fb fi]) := hD
          refine W.widen (k := 0) (n := 0) (Nat.le_of_ble_eq_true rfl) (Nat.le_of_ble_eq_true rfl) ?_
          refine W.eq (g2 := F0 m 57 ls []) rfl ?_
          obtain ⟨rfc2_15, hq16_1, hq16_2⟩ := hq16
          refine lv_aload_n hx hb dX12_tie_57 rfl (lv_at hl 0 rfl) ?_
          refine lv_iload_n hx hb dX12_tie_58 rfl (lv_at hl 1 rfl) ?_
          refine lv_iload_n hx hb dX12_tie_59 rfl (lv_at hl 2 rfl) ?_
          refine mcallV' (g := g) (q0 := 0) (ci := 10) (As := [.int x, .int o2]) (rest := []) St hK hT hA hP hD hS hl.1 [0] [] rfl rfl rfl (m_trustOfF l g o a 0 hi ac2_14 tp ba en tA fl de iD iO tU fm fk fa fc2_15 ft ff fb fi x o2 (by first | assumption | omega | decide | exact Or.inl (by decide) | exact Or.inr (by decide)) (by first | assumption | omega | decide | exact Or.inl (by decide) | exact Or.inr (by decide))) (cwV 2 hts (zgL (zl4 k868 k869 k870 k839) k835) rfl rfl rfl (by decide +kernel) ⟨Nat.le_of_ble_eq_true rfl, Nat.le_of_ble_eq_true rfl⟩) rfl rfl rfl rfl (Nat.le_of_ble_eq_true rfl) dX12_tie_60 ⟨(Nat.le_of_ble_eq_true rfl), (Nat.le_of_ble_eq_true rfl)⟩ (fun _u H locs hq17 hP hD hS => ?_)
          have hP : va_P g.1 vwCl (List.flatten [bMo g o a 0 hi ac2_14 tp ba en tA fl de iD iO tU fm fk fa fc2_15 ft ff fb fi]) H := hP
          have hD : va_D A (List.flatten [bMo g o a 0 hi ac2_14 tp ba en tA fl de iD iO tU fm fk fa fc2_15 ft ff fb fi]) := hD
          refine W.widen (k := 0) (n := 0) (Nat.le_of_ble_eq_true rfl) (Nat.le_of_ble_eq_true rfl) ?_
          refine W.eq (g2 := F0 m 63 ls [.int (zV fm 5 (8 * x.toInt.toNat + o2.toInt.toNat))]) rfl ?_
          refine lv_istore (lv' := [(4, .int (zV fm 5 (8 * x.toInt.toNat + o2.toInt.toNat))), (0, .ref o), (1, .int x), (2, .int o2), (3, .int n)]) hx hb dX12_tie_63 hl (by decide) rfl (fun ls hl => ?_)
          refine lv_aload_n hx hb dX12_tie_65 rfl (lv_at hl 1 rfl) ?_
          refine va_get (D := g.1) (ci := 10) (v := .ref (a 0)) (C := RX12) (T := TX12) (N := 20) hx hb hts izRX12 hown hK hP 0 rfl rfl 1 (by decide) (hts _ k815) (fun _ h9 => h9) rfl dX12_tie_66 ?_
          refine lv_bipush (v := 51) hx hb dX12_tie_69 (by decide) ?_
          refine lv_bipush (v := 8) hx hb dX12_tie_71 (by decide) ?_
          refine lv_iload_n hx hb dX12_tie_73 rfl (lv_at hl 2 rfl) ?_
          refine lv_imul hx hb dX12_tie_74 ?_
          refine zgv (zmul (i := 8) (j := x.toInt) (by decide) rfl (by omega)) (fun x_18 hx_18 => ?_)
          refine lv_iadd hx hb dX12_tie_75 ?_
          refine zgv (zadd (i := 51) (j := x_18.toInt) (by decide) rfl (by omega)) (fun x_19 hx_19 => ?_)
          refine lv_iload_n hx hb dX12_tie_76 rfl (lv_at hl 3 rfl) ?_
          refine lv_iadd hx hb dX12_tie_77 ?_
          refine zgv (zadd (i := x_19.toInt) (j := o2.toInt) rfl rfl (by omega)) (fun x_20 hx_20 => ?_)
          refine lv_iload_n hx hb dX12_tie_78 rfl (lv_at hl 4 rfl) ?_
          refine va_iast hx hb hK hP hD hS 1 0 rfl rfl (zinI (by omega) (by omega)) dX12_tie_79 (fun H locs hP hD hS => ?_)
          obtain ⟨fm_21, rfm_21, efm_21, hP, hD⟩ : ∃ fm_21 : Nat → Int32, rM fm_21 ∧ fm_21 = upd fm (51 + (8 * x.toInt.toNat + o2.toInt.toNat)) n ∧ va_P g.1 vwCl (List.flatten [bMo g o a 0 hi ac2_14 tp ba en tA fl de iD iO tU fm_21 fk fa fc2_15 ft ff fb fi]) H ∧ va_D A (List.flatten [bMo g o a 0 hi ac2_14 tp ba en tA fl de iD iO tU fm_21 fk fa fc2_15 ft ff fb fi]) := ⟨upd fm x_20.toNatClampNeg n, (rM_stB rfm (by omega)), (zUpI (by omega)), hP, hD⟩
          refine lv_iload hx hb dX12_tie_80 (lv_at hl 0 rfl) ?_
          have hP : va_P g.1 vwCl (List.flatten [bMo g o a 0 hi ac2_14 tp ba en tA fl de iD iO tU fm_21 fk fa fc2_15 ft ff fb fi]) H := hP
          have hD : va_D A (List.flatten [bMo g o a 0 hi ac2_14 tp ba en tA fl de iD iO tU fm_21 fk fa fc2_15 ft ff fb fi]) := hD
          exact mret_i hx hb hr hlocks hS (Nat.le_of_ble_eq_true rfl) (Nat.le_of_ble_eq_true rfl) dX12_tie_82 ((0 : Int32), fm_21, fc2_15, ac2_14, zV fm 5 (8 * x.toInt.toNat + o2.toInt.toNat)) rfl (show (0 ≤ ac2_14.toInt ∧ ac2_14.toInt ≤ 12) ∧ (rC fc2_15) ∧ (rM fm_21) ∧ (zX9 (0, (zV fm 5 (8 * x.toInt.toNat + o2.toInt.toNat)), zM9 fm_21) (zxTie x o2 n (zM9 fm))) ∧ (zMm 0 fc fc2_15 ac.toInt ac2_14.toInt fm) ∧ (zKl fm fm_21) from ⟨(by first | assumption | omega | decide), (by first | assumption | omega | decide), (by first | assumption | omega | decide), (zxTie_m (by omega) (by omega) (by omega) (by omega) (by omega) efm_21), (zMm_y (by decide) hq16_2), (zKl_u (zKl_r _) efm_21 (by omega))⟩) hP hD
        · skip
          refine lv_if_ne (tgt := 40) hx hb dX12_tie_33 (by decide) (fun c22 => absurd (by decide) c22) (fun _ => ?_)
          refine lv_iconst (v := 2) hx hb dX12_tie_36 (by decide) ?_
          refine lv_goto (tgt := 41) hx hb dX12_tie_37 (by decide) ?_
          refine va_put (D := g.1) (ci := 10) (v := .int 2) (ty := .int) (C := RX12) (T := TX12) (N := 20) hx hb hts izRX12 tyX12 tyX12_ok nmX12 hown hK hP hD hS 0 rfl rfl 0 (by decide) (hts _ k825) (fun _ h9 => h9) rfl (by decide +kernel) rfl rfl (Nat.le_of_ble_eq_true rfl) dX12_tie_41 (fun H locs hP hD hS => ?_)
          have hP : va_P g.1 vwCl (List.flatten [bMo g o a 2 hi ac tp ba en tA fl de iD iO tU fm fk fa fc ft ff fb fi]) H := hP
          have hD : va_D A (List.flatten [bMo g o a 2 hi ac tp ba en tA fl de iD iO tU fm fk fa fc ft ff fb fi]) := hD
          refine lv_aload_n hx hb dX12_tie_44 rfl (lv_at hl 0 rfl) ?_
          refine va_get (D := g.1) (ci := 10) (v := .int 2) (C := RX12) (T := TX12) (N := 20) hx hb hts izRX12 hown hK hP 0 rfl rfl 0 (by decide) (hts _ k825) (fun _ h9 => h9) rfl dX12_tie_45 ?_
          refine lv_if_le (tgt := 53) hx hb dX12_tie_48 (by decide) (fun c23 => absurd c23 (by decide)) (fun _ => ?_)
          refine lv_iconst (v := 0) hx hb dX12_tie_51 (by decide) ?_
          have hP : va_P g.1 vwCl (List.flatten [bMo g o a 2 hi ac tp ba en tA fl de iD iO tU fm fk fa fc ft ff fb fi]) H := hP
          have hD : va_D A (List.flatten [bMo g o a 2 hi ac tp ba en tA fl de iD iO tU fm fk fa fc ft ff fb fi]) := hD
          exact mret_i hx hb hr hlocks hS (Nat.le_of_ble_eq_true rfl) (Nat.le_of_ble_eq_true rfl) dX12_tie_52 ((2 : Int32), fm, fc, ac, (0 : Int32)) rfl (show (0 ≤ ac.toInt ∧ ac.toInt ≤ 12) ∧ (rC fc) ∧ (rM fm) ∧ (zX9 (2, 0, zM9 fm) (zxTie x o2 n (zM9 fm))) ∧ (zMm 2 fc fc ac.toInt ac.toInt fm) ∧ (zKl fm fm) from ⟨(by first | assumption | omega | decide), (by first | assumption | omega | decide), (by first | assumption | omega | decide), (zxTie_m2 (by omega) (by omega)), (zMm_n (by decide)), (zKl_r _)⟩) hP hD
    · skip
      refine lv_if_ne (tgt := 21) hx hb dX12_tie_14 (by decide) (fun c24 => absurd (by decide) c24) (fun _ => ?_)
      refine lv_iconst (v := 1) hx hb dX12_tie_17 (by decide) ?_
      refine lv_goto (tgt := 41) hx hb dX12_tie_18 (by decide) ?_
      refine va_put (D := g.1) (ci := 10) (v := .int 1) (ty := .int) (C := RX12) (T := TX12) (N := 20) hx hb hts izRX12 tyX12 tyX12_ok nmX12 hown hK hP hD hS 0 rfl rfl 0 (by decide) (hts _ k825) (fun _ h9 => h9) rfl (by decide +kernel) rfl rfl (Nat.le_of_ble_eq_true rfl) dX12_tie_41 (fun H locs hP hD hS => ?_)
      have hP : va_P g.1 vwCl (List.flatten [bMo g o a 1 hi ac tp ba en tA fl de iD iO tU fm fk fa fc ft ff fb fi]) H := hP
      have hD : va_D A (List.flatten [bMo g o a 1 hi ac tp ba en tA fl de iD iO tU fm fk fa fc ft ff fb fi]) := hD
      refine lv_aload_n hx hb dX12_tie_44 rfl (lv_at hl 0 rfl) ?_
      refine va_get (D := g.1) (ci := 10) (v := .int 1) (C := RX12) (T := TX12) (N := 20) hx hb hts izRX12 hown hK hP 0 rfl rfl 0 (by decide) (hts _ k825) (fun _ h9 => h9) rfl dX12_tie_45 ?_
      refine lv_if_le (tgt := 53) hx hb dX12_tie_48 (by decide) (fun c25 => absurd c25 (by decide)) (fun _ => ?_)
      refine lv_iconst (v := 0) hx hb dX12_tie_51 (by decide) ?_
      have hP : va_P g.1 vwCl (List.flatten [bMo g o a 1 hi ac tp ba en tA fl de iD iO tU fm fk fa fc ft ff fb fi]) H := hP
      have hD : va_D A (List.flatten [bMo g o a 1 hi ac tp ba en tA fl de iD iO tU fm fk fa fc ft ff fb fi]) := hD
      exact mret_i hx hb hr hlocks hS (Nat.le_of_ble_eq_true rfl) (Nat.le_of_ble_eq_true rfl) dX12_tie_52 ((1 : Int32), fm, fc, ac, (0 : Int32)) rfl (show (0 ≤ ac.toInt ∧ ac.toInt ≤ 12) ∧ (rC fc) ∧ (rM fm) ∧ (zX9 (1, 0, zM9 fm) (zxTie x o2 n (zM9 fm))) ∧ (zMm 1 fc fc ac.toInt ac.toInt fm) ∧ (zKl fm fm) from ⟨(by first | assumption | omega | decide), (by first | assumption | omega | decide), (by first | assumption | omega | decide), (zxTie_m1 (by omega)), (zMm_n (by decide)), (zKl_r _)⟩) hP hD
  · skip
    refine lv_if_eq (tgt := 17) hx hb dX12_tie_6 (by decide) (fun _ => ?_) (fun c26 => absurd (by decide) c26)
    refine lv_iconst (v := 1) hx hb dX12_tie_17 (by decide) ?_
    refine lv_goto (tgt := 41) hx hb dX12_tie_18 (by decide) ?_
    refine va_put (D := g.1) (ci := 10) (v := .int 1) (ty := .int) (C := RX12) (T := TX12) (N := 20) hx hb hts izRX12 tyX12 tyX12_ok nmX12 hown hK hP hD hS 0 rfl rfl 0 (by decide) (hts _ k825) (fun _ h9 => h9) rfl (by decide +kernel) rfl rfl (Nat.le_of_ble_eq_true rfl) dX12_tie_41 (fun H locs hP hD hS => ?_)
    have hP : va_P g.1 vwCl (List.flatten [bMo g o a 1 hi ac tp ba en tA fl de iD iO tU fm fk fa fc ft ff fb fi]) H := hP
    have hD : va_D A (List.flatten [bMo g o a 1 hi ac tp ba en tA fl de iD iO tU fm fk fa fc ft ff fb fi]) := hD
    refine lv_aload_n hx hb dX12_tie_44 rfl (lv_at hl 0 rfl) ?_
    refine va_get (D := g.1) (ci := 10) (v := .int 1) (C := RX12) (T := TX12) (N := 20) hx hb hts izRX12 hown hK hP 0 rfl rfl 0 (by decide) (hts _ k825) (fun _ h9 => h9) rfl dX12_tie_45 ?_
    refine lv_if_le (tgt := 53) hx hb dX12_tie_48 (by decide) (fun c27 => absurd c27 (by decide)) (fun _ => ?_)
    refine lv_iconst (v := 0) hx hb dX12_tie_51 (by decide) ?_
    have hP : va_P g.1 vwCl (List.flatten [bMo g o a 1 hi ac tp ba en tA fl de iD iO tU fm fk fa fc ft ff fb fi]) H := hP
    have hD : va_D A (List.flatten [bMo g o a 1 hi ac tp ba en tA fl de iD iO tU fm fk fa fc ft ff fb fi]) := hD
    exact mret_i hx hb hr hlocks hS (Nat.le_of_ble_eq_true rfl) (Nat.le_of_ble_eq_true rfl) dX12_tie_52 ((1 : Int32), fm, fc, ac, (0 : Int32)) rfl (show (0 ≤ ac.toInt ∧ ac.toInt ≤ 12) ∧ (rC fc) ∧ (rM fm) ∧ (zX9 (1, 0, zM9 fm) (zxTie x o2 n (zM9 fm))) ∧ (zMm 1 fc fc ac.toInt ac.toInt fm) ∧ (zKl fm fm) from ⟨(by first | assumption | omega | decide), (by first | assumption | omega | decide), (by first | assumption | omega | decide), (zxTie_m1 (by omega)), (zMm_n (by decide)), (zKl_r _)⟩) hP hD
set_option maxRecDepth 100000 in
set_option maxHeartbeats 4000000 in
theorem m_planC (l : Launch) (g : zG) (o : Nat) (a : Nat → Nat) (th : Int32) (hi : Int32) (ac : Int32) (tp : Int32) (ba : Int32) (en : Int32) (tA : Int32) (fl : Int32) (de : Int32) (iD : Int32) (iO : Int32) (tU : Int32) (fm : Nat → Int32) (fk : Nat → Int32) (fa : Nat → Int32) (fc : Nat → Int32) (ft : Nat → Int32) (ff : Nat → Int32) (fb : Nat → Int32) (fi : Nat → Int32) (w : Int32) (rfm : rM fm) (rfc : rC fc) (hac : 0 ≤ ac.toInt ∧ ac.toInt ≤ 12) : zM' g l yX12_plan (Cond.code yX12_plan cX12_plan 2 none :: zB) ({ frames := 2, cells := 0, slots := 0, locals := 43 } : Room) [.ref o, .int w] [bMo g o a th hi ac tp ba en tA fl de iD iO tU fm fk fa fc ft ff fb fi] (fun u : Int32 × (Nat → Int32) × (Nat → Int32) × Int32 => (fun (th2 : Int32) (fm2 : Nat → Int32) (fc2 : Nat → Int32) (ac2 : Int32) => none) (u.1) (u.2.1) (u.2.2.1) (u.2.2.2)) (fun u : Int32 × (Nat → Int32) × (Nat → Int32) × Int32 => (fun (th2 : Int32) (fm2 : Nat → Int32) (fc2 : Nat → Int32) (ac2 : Int32) => (0 ≤ ac2.toInt ∧ ac2.toInt ≤ 12) ∧ (rC fc2) ∧ (rM fm2) ∧ (zX9 (th2, 0, zM9 fm2) (zxPlan w (zM9 fm))) ∧ (zMm th2 fc fc2 ac.toInt ac2.toInt fm) ∧ (zKl fm fm2)) (u.1) (u.2.1) (u.2.2.1) (u.2.2.2)) (fun u : Int32 × (Nat → Int32) × (Nat → Int32) × Int32 => (fun (th2 : Int32) (fm2 : Nat → Int32) (fc2 : Nat → Int32) (ac2 : Int32) => [bMo g o a th2 hi ac2 tp ba en tA fl de iD iO tU fm2 fk fa fc2 ft ff fb fi]) (u.1) (u.2.1) (u.2.2.1) (u.2.2.2)) := by
  refine zM'.of (cc := cX12_plan) (maxL := 2) (rt := none) (by decide) rfl (Nat.le_of_ble_eq_true rfl) ?_
  intro p e s m args below meth c A ls St hr hlocks hin hK hT hA hP hD hS hl
  obtain ⟨hx, hb, hml, hown, hts⟩ := id St
  have hl : lv_has ls 2 [(0, .ref o), (1, .int w)] := hl
  have hrm3 := rM3 rfm
  have hrm4 := rM4 rfm
  refine lv_aload_n hx hb dX12_plan_0 rfl (lv_at hl 0 rfl) ?_
  refine lv_aload_n hx hb dX12_plan_1 rfl (lv_at hl 0 rfl) ?_
  refine lv_iload_n hx hb dX12_plan_2 rfl (lv_at hl 1 rfl) ?_
  refine mcallV' (g := g) (q0 := 0) (ci := 10) (As := [.int w]) (rest := [.ref o]) St hK hT hA hP hD hS hl.1 [0] [] rfl rfl rfl (m_isWorkG l g o a th hi ac tp ba en tA fl de iD iO tU fm fk fa fc ft ff fb fi w rfm) (cwV 1 hts (zgL (zl4 k1042 k1043 k1044 k839) k840) rfl rfl rfl (by decide +kernel) ⟨Nat.le_of_ble_eq_true rfl, Nat.le_of_ble_eq_true rfl⟩) rfl rfl rfl rfl (Nat.le_of_ble_eq_true rfl) dX12_plan_3 ⟨(Nat.le_of_ble_eq_true rfl), (Nat.le_of_ble_eq_true rfl)⟩ (fun q_1 H locs hq2 hP hD hS => ?_)
  replace hq2 : (q_1 = 1 ∧ 0 ≤ w.toInt ∧ w.toInt ≤ 5 ∧ w.toInt < (fm 4).toInt ∨ q_1 = 0 ∧ ¬ (0 ≤ w.toInt ∧ w.toInt < (fm 4).toInt)) := hq2
  have hP : va_P g.1 vwCl (List.flatten [bMo g o a th hi ac tp ba en tA fl de iD iO tU fm fk fa fc ft ff fb fi]) H := hP
  have hD : va_D A (List.flatten [bMo g o a th hi ac tp ba en tA fl de iD iO tU fm fk fa fc ft ff fb fi]) := hD
  refine W.widen (k := 0) (n := 0) (Nat.le_of_ble_eq_true rfl) (Nat.le_of_ble_eq_true rfl) ?_
  refine W.eq (g2 := F0 m 6 ls [.int q_1, .ref o]) rfl ?_
  rcases hq2 with ⟨rfl, hq2_k⟩ | ⟨rfl, hq2_k⟩
  · skip
    refine lv_if_ne (tgt := 13) hx hb dX12_plan_6 (by decide) (fun _ => ?_) (fun c3 => absurd c3 (by decide))
    refine lv_aload_n hx hb dX12_plan_13 rfl (lv_at hl 0 rfl) ?_
    refine lv_iload_n hx hb dX12_plan_14 rfl (lv_at hl 1 rfl) ?_
    refine lv_iconst (v := 3) hx hb dX12_plan_15 (by decide) ?_
    refine mcallV' (g := g) (q0 := 0) (ci := 10) (As := [.int w, .int 3]) (rest := [.ref o]) St hK hT hA hP hD hS hl.1 [0] [] rfl rfl rfl (m_ofW3F l g o a th hi ac tp ba en tA fl de iD iO tU fm fk fa fc ft ff fb fi w (by first | assumption | omega | decide | exact Or.inl (by decide) | exact Or.inr (by decide))) (cwV 2 hts (zgL (zl4 k864 k865 k866 k839) k833) rfl rfl rfl (by decide +kernel) ⟨Nat.le_of_ble_eq_true rfl, Nat.le_of_ble_eq_true rfl⟩) rfl rfl rfl rfl (Nat.le_of_ble_eq_true rfl) dX12_plan_16 ⟨(Nat.le_of_ble_eq_true rfl), (Nat.le_of_ble_eq_true rfl)⟩ (fun _u H locs hq4 hP hD hS => ?_)
    have hP : va_P g.1 vwCl (List.flatten [bMo g o a th hi ac tp ba en tA fl de iD iO tU fm fk fa fc ft ff fb fi]) H := hP
    have hD : va_D A (List.flatten [bMo g o a th hi ac tp ba en tA fl de iD iO tU fm fk fa fc ft ff fb fi]) := hD
    refine W.widen (k := 0) (n := 0) (Nat.le_of_ble_eq_true rfl) (Nat.le_of_ble_eq_true rfl) ?_
    refine W.eq (g2 := F0 m 19 ls [.int (zV fm 9 w.toInt.toNat), .ref o]) rfl ?_
    refine lv_iconst (v := 2) hx hb dX12_plan_19 (by decide) ?_
    refine lv_icmp_eq (tgt := 27) hx hb dX12_plan_20 (by decide) (fun cb9 => ?_) (fun cb9 => ?_)
    · skip
      have c5 : (zV fm 9 w.toInt.toNat).toInt = 2 := zeq cb9 rfl (by decide)
      have n6 : 2 ≤ (zV fm 9 w.toInt.toNat).toInt := Int.le_trans (Int.le_refl _) (Int.le_of_eq c5.symm)
      have n7 : (zV fm 9 w.toInt.toNat).toInt ≤ 2 := Int.le_trans (Int.le_of_eq c5) (Int.le_refl _)
      refine lv_iconst (v := 0) hx hb dX12_plan_27 (by decide) ?_
      refine va_put (D := g.1) (ci := 10) (v := .int 0) (ty := .int) (C := RX12) (T := TX12) (N := 20) hx hb hts izRX12 tyX12 tyX12_ok nmX12 hown hK hP hD hS 0 rfl rfl 0 (by decide) (hts _ k825) (fun _ h9 => h9) rfl (by decide +kernel) rfl rfl (Nat.le_of_ble_eq_true rfl) dX12_plan_28 (fun H locs hP hD hS => ?_)
      have hP : va_P g.1 vwCl (List.flatten [bMo g o a 0 hi ac tp ba en tA fl de iD iO tU fm fk fa fc ft ff fb fi]) H := hP
      have hD : va_D A (List.flatten [bMo g o a 0 hi ac tp ba en tA fl de iD iO tU fm fk fa fc ft ff fb fi]) := hD
      refine lv_aload_n hx hb dX12_plan_31 rfl (lv_at hl 0 rfl) ?_
      refine va_get (D := g.1) (ci := 10) (v := .int 0) (C := RX12) (T := TX12) (N := 20) hx hb hts izRX12 hown hK hP 0 rfl rfl 0 (by decide) (hts _ k825) (fun _ h9 => h9) rfl dX12_plan_32 ?_
      refine lv_if_le (tgt := 39) hx hb dX12_plan_35 (by decide) (fun _ => ?_) (fun c8 => absurd (by decide) c8)
      refine lv_aload_n hx hb dX12_plan_39 rfl (lv_at hl 0 rfl) ?_
      refine mcallV' (g := g) (q0 := 0) (ci := 10) (As := []) (rest := []) St hK hT hA hP hD hS hl.1 [0] [] rfl rfl rfl (m_remembers l g o a 0 hi ac tp ba en tA fl de iD iO tU fm fk fa fc ft ff fb fi rfm rfc hac) (cwV 0 hts (zgL (zl4 k1047 k1048 k1049 k839) k1046) rfl rfl rfl (by decide +kernel) ⟨Nat.le_of_ble_eq_true rfl, Nat.le_of_ble_eq_true rfl⟩) rfl rfl rfl rfl (Nat.le_of_ble_eq_true rfl) dX12_plan_40 ⟨(Nat.le_of_ble_eq_true rfl), (Nat.le_of_ble_eq_true rfl)⟩ (fun u_ H locs hq11 hP hD hS => ?_)
      obtain ⟨ac2_9, fc2_10⟩ := u_
      replace hq11 : (rC fc2_10) ∧ (0 ≤ ac2_9.toInt ∧ ac2_9.toInt ≤ 12) ∧ (zRem fc fc2_10 ac.toInt ac2_9.toInt fm) := hq11
      have hP : va_P g.1 vwCl (List.flatten [bMo g o a 0 hi ac2_9 tp ba en tA fl de iD iO tU fm fk fa fc2_10 ft ff fb fi]) H := hP
      have hD : va_D A (List.flatten [bMo g o a 0 hi ac2_9 tp ba en tA fl de iD iO tU fm fk fa fc2_10 ft ff fb fi]) := hD
      refine W.widen (k := 0) (n := 0) (Nat.le_of_ble_eq_true rfl) (Nat.le_of_ble_eq_true rfl) ?_
      refine W.eq (g2 := F0 m 43 ls []) rfl ?_
      obtain ⟨rfc2_10, hq11_1, hq11_2⟩ := hq11
      refine lv_aload_n hx hb dX12_plan_43 rfl (lv_at hl 0 rfl) ?_
      refine lv_iload_n hx hb dX12_plan_44 rfl (lv_at hl 1 rfl) ?_
      refine lv_iconst (v := 3) hx hb dX12_plan_45 (by decide) ?_
      refine lv_iconst (v := 0) hx hb dX12_plan_46 (by decide) ?_
      refine mcallV' (g := g) (q0 := 0) (ci := 10) (As := [.int w, .int 3, .int 0]) (rest := []) St hK hT hA hP hD hS hl.1 [0] [] rfl rfl rfl (m_putW3F l g o a 0 hi ac2_9 tp ba en tA fl de iD iO tU fm fk fa fc2_10 ft ff fb fi w 0 rfm (by first | assumption | omega | decide | exact Or.inl (by decide) | exact Or.inr (by decide))) (cwV 3 hts (zgL (zl4 k914 k915 k916 k839) k834) rfl rfl rfl (by decide +kernel) ⟨Nat.le_of_ble_eq_true rfl, Nat.le_of_ble_eq_true rfl⟩) rfl rfl rfl rfl (Nat.le_of_ble_eq_true rfl) dX12_plan_47 ⟨(Nat.le_of_ble_eq_true rfl), (Nat.le_of_ble_eq_true rfl)⟩ (fun fm2_12 H locs hq13 hP hD hS => ?_)
      replace hq13 : (rM fm2_12) ∧ (fm2_12 = upd fm (118 + 4 * w.toInt.toNat) 0) := hq13
      have hP : va_P g.1 vwCl (List.flatten [bMo g o a 0 hi ac2_9 tp ba en tA fl de iD iO tU fm2_12 fk fa fc2_10 ft ff fb fi]) H := hP
      have hD : va_D A (List.flatten [bMo g o a 0 hi ac2_9 tp ba en tA fl de iD iO tU fm2_12 fk fa fc2_10 ft ff fb fi]) := hD
      refine W.widen (k := 0) (n := 0) (Nat.le_of_ble_eq_true rfl) (Nat.le_of_ble_eq_true rfl) ?_
      refine W.eq (g2 := F0 m 50 ls []) rfl ?_
      obtain ⟨rfm2_12, hq13_1⟩ := hq13
      have hP : va_P g.1 vwCl (List.flatten [bMo g o a 0 hi ac2_9 tp ba en tA fl de iD iO tU fm2_12 fk fa fc2_10 ft ff fb fi]) H := hP
      have hD : va_D A (List.flatten [bMo g o a 0 hi ac2_9 tp ba en tA fl de iD iO tU fm2_12 fk fa fc2_10 ft ff fb fi]) := hD
      exact mret_v hx hb hr hlocks hS (Nat.le_of_ble_eq_true rfl) (Nat.le_of_ble_eq_true rfl) dX12_plan_50 ((0 : Int32), fm2_12, fc2_10, ac2_9) rfl (show (0 ≤ ac2_9.toInt ∧ ac2_9.toInt ≤ 12) ∧ (rC fc2_10) ∧ (rM fm2_12) ∧ (zX9 (0, 0, zM9 fm2_12) (zxPlan w (zM9 fm))) ∧ (zMm 0 fc fc2_10 ac.toInt ac2_9.toInt fm) ∧ (zKl fm fm2_12) from ⟨(by first | assumption | omega | decide), (by first | assumption | omega | decide), (by first | assumption | omega | decide), (zxPlan_m (by omega) (by omega) (by omega) hq13_1), (zMm_y (by decide) hq11_2), (zKl_u (zKl_r _) hq13_1 (by omega))⟩) hP hD
    · skip
      have c14 : ¬ (zV fm 9 w.toInt.toNat).toInt = 2 := zne cb9 rfl (by decide)
      refine lv_iconst (v := 2) hx hb dX12_plan_23 (by decide) ?_
      refine lv_goto (tgt := 28) hx hb dX12_plan_24 (by decide) ?_
      refine va_put (D := g.1) (ci := 10) (v := .int 2) (ty := .int) (C := RX12) (T := TX12) (N := 20) hx hb hts izRX12 tyX12 tyX12_ok nmX12 hown hK hP hD hS 0 rfl rfl 0 (by decide) (hts _ k825) (fun _ h9 => h9) rfl (by decide +kernel) rfl rfl (Nat.le_of_ble_eq_true rfl) dX12_plan_28 (fun H locs hP hD hS => ?_)
      have hP : va_P g.1 vwCl (List.flatten [bMo g o a 2 hi ac tp ba en tA fl de iD iO tU fm fk fa fc ft ff fb fi]) H := hP
      have hD : va_D A (List.flatten [bMo g o a 2 hi ac tp ba en tA fl de iD iO tU fm fk fa fc ft ff fb fi]) := hD
      refine lv_aload_n hx hb dX12_plan_31 rfl (lv_at hl 0 rfl) ?_
      refine va_get (D := g.1) (ci := 10) (v := .int 2) (C := RX12) (T := TX12) (N := 20) hx hb hts izRX12 hown hK hP 0 rfl rfl 0 (by decide) (hts _ k825) (fun _ h9 => h9) rfl dX12_plan_32 ?_
      refine lv_if_le (tgt := 39) hx hb dX12_plan_35 (by decide) (fun c15 => absurd c15 (by decide)) (fun _ => ?_)
      have hP : va_P g.1 vwCl (List.flatten [bMo g o a 2 hi ac tp ba en tA fl de iD iO tU fm fk fa fc ft ff fb fi]) H := hP
      have hD : va_D A (List.flatten [bMo g o a 2 hi ac tp ba en tA fl de iD iO tU fm fk fa fc ft ff fb fi]) := hD
      exact mret_v hx hb hr hlocks hS (Nat.le_of_ble_eq_true rfl) (Nat.le_of_ble_eq_true rfl) dX12_plan_38 ((2 : Int32), fm, fc, ac) rfl (show (0 ≤ ac.toInt ∧ ac.toInt ≤ 12) ∧ (rC fc) ∧ (rM fm) ∧ (zX9 (2, 0, zM9 fm) (zxPlan w (zM9 fm))) ∧ (zMm 2 fc fc ac.toInt ac.toInt fm) ∧ (zKl fm fm) from ⟨(by first | assumption | omega | decide), (by first | assumption | omega | decide), (by first | assumption | omega | decide), (zxPlan_m2 (by omega) (by omega)), (zMm_n (by decide)), (zKl_r _)⟩) hP hD
  · skip
    refine lv_if_ne (tgt := 13) hx hb dX12_plan_6 (by decide) (fun c16 => absurd (by decide) c16) (fun _ => ?_)
    refine lv_iconst (v := 1) hx hb dX12_plan_9 (by decide) ?_
    refine lv_goto (tgt := 28) hx hb dX12_plan_10 (by decide) ?_
    refine va_put (D := g.1) (ci := 10) (v := .int 1) (ty := .int) (C := RX12) (T := TX12) (N := 20) hx hb hts izRX12 tyX12 tyX12_ok nmX12 hown hK hP hD hS 0 rfl rfl 0 (by decide) (hts _ k825) (fun _ h9 => h9) rfl (by decide +kernel) rfl rfl (Nat.le_of_ble_eq_true rfl) dX12_plan_28 (fun H locs hP hD hS => ?_)
    have hP : va_P g.1 vwCl (List.flatten [bMo g o a 1 hi ac tp ba en tA fl de iD iO tU fm fk fa fc ft ff fb fi]) H := hP
    have hD : va_D A (List.flatten [bMo g o a 1 hi ac tp ba en tA fl de iD iO tU fm fk fa fc ft ff fb fi]) := hD
    refine lv_aload_n hx hb dX12_plan_31 rfl (lv_at hl 0 rfl) ?_
    refine va_get (D := g.1) (ci := 10) (v := .int 1) (C := RX12) (T := TX12) (N := 20) hx hb hts izRX12 hown hK hP 0 rfl rfl 0 (by decide) (hts _ k825) (fun _ h9 => h9) rfl dX12_plan_32 ?_
    refine lv_if_le (tgt := 39) hx hb dX12_plan_35 (by decide) (fun c17 => absurd c17 (by decide)) (fun _ => ?_)
    have hP : va_P g.1 vwCl (List.flatten [bMo g o a 1 hi ac tp ba en tA fl de iD iO tU fm fk fa fc ft ff fb fi]) H := hP
    have hD : va_D A (List.flatten [bMo g o a 1 hi ac tp ba en tA fl de iD iO tU fm fk fa fc ft ff fb fi]) := hD
    exact mret_v hx hb hr hlocks hS (Nat.le_of_ble_eq_true rfl) (Nat.le_of_ble_eq_true rfl) dX12_plan_38 ((1 : Int32), fm, fc, ac) rfl (show (0 ≤ ac.toInt ∧ ac.toInt ≤ 12) ∧ (rC fc) ∧ (rM fm) ∧ (zX9 (1, 0, zM9 fm) (zxPlan w (zM9 fm))) ∧ (zMm 1 fc fc ac.toInt ac.toInt fm) ∧ (zKl fm fm) from ⟨(by first | assumption | omega | decide), (by first | assumption | omega | decide), (by first | assumption | omega | decide), (zxPlan_m1 (by omega)), (zMm_n (by decide)), (zKl_r _)⟩) hP hD
set_option maxRecDepth 100000 in
set_option maxHeartbeats 4000000 in
theorem m_sendC (l : Launch) (g : zG) (o : Nat) (a : Nat → Nat) (th : Int32) (hi : Int32) (ac : Int32) (tp : Int32) (ba : Int32) (en : Int32) (tA : Int32) (fl : Int32) (de : Int32) (iD : Int32) (iO : Int32) (tU : Int32) (fm : Nat → Int32) (fk : Nat → Int32) (fa : Nat → Int32) (fc : Nat → Int32) (ft : Nat → Int32) (ff : Nat → Int32) (fb : Nat → Int32) (fi : Nat → Int32) (x : Int32) (rfm : rM fm) (rfc : rC fc) (hac : 0 ≤ ac.toInt ∧ ac.toInt ≤ 12) : zM' g l yX12_send (Cond.code yX12_send cX12_send 2 (some .int) :: zB) ({ frames := 2, cells := 0, slots := 0, locals := 43 } : Room) [.ref o, .int x] [bMo g o a th hi ac tp ba en tA fl de iD iO tU fm fk fa fc ft ff fb fi] (fun u : Int32 × (Nat → Int32) × (Nat → Int32) × Int32 × Int32 => (fun (th2 : Int32) (fm2 : Nat → Int32) (fc2 : Nat → Int32) (ac2 : Int32) (q : Int32) => some (.int q)) (u.1) (u.2.1) (u.2.2.1) (u.2.2.2.1) (u.2.2.2.2)) (fun u : Int32 × (Nat → Int32) × (Nat → Int32) × Int32 × Int32 => (fun (th2 : Int32) (fm2 : Nat → Int32) (fc2 : Nat → Int32) (ac2 : Int32) (q : Int32) => (0 ≤ ac2.toInt ∧ ac2.toInt ≤ 12) ∧ (rC fc2) ∧ (rM fm2) ∧ (zX9 (th2, q, zM9 fm2) (zxSend x (zM9 fm))) ∧ (zMm th2 fc fc2 ac.toInt ac2.toInt fm) ∧ (zKl fm fm2)) (u.1) (u.2.1) (u.2.2.1) (u.2.2.2.1) (u.2.2.2.2)) (fun u : Int32 × (Nat → Int32) × (Nat → Int32) × Int32 × Int32 => (fun (th2 : Int32) (fm2 : Nat → Int32) (fc2 : Nat → Int32) (ac2 : Int32) (q : Int32) => [bMo g o a th2 hi ac2 tp ba en tA fl de iD iO tU fm2 fk fa fc2 ft ff fb fi]) (u.1) (u.2.1) (u.2.2.1) (u.2.2.2.1) (u.2.2.2.2)) := by
  refine zM'.of (cc := cX12_send) (maxL := 2) (rt := (some .int)) (by decide) rfl (Nat.le_of_ble_eq_true rfl) ?_
  intro p e s m args below meth c A ls St hr hlocks hin hK hT hA hP hD hS hl
  obtain ⟨hx, hb, hml, hown, hts⟩ := id St
  have hl : lv_has ls 2 [(0, .ref o), (1, .int x)] := hl
  have hrm3 := rM3 rfm
  have hrm4 := rM4 rfm
  refine lv_aload_n hx hb dX12_send_0 rfl (lv_at hl 0 rfl) ?_
  refine lv_aload_n hx hb dX12_send_1 rfl (lv_at hl 0 rfl) ?_
  refine lv_iload_n hx hb dX12_send_2 rfl (lv_at hl 1 rfl) ?_
  refine mcallV' (g := g) (q0 := 0) (ci := 10) (As := [.int x]) (rest := [.ref o]) St hK hT hA hP hD hS hl.1 [0] [] rfl rfl rfl (m_isPersonG l g o a th hi ac tp ba en tA fl de iD iO tU fm fk fa fc ft ff fb fi x rfm) (cwV 1 hts (zgL (zl4 k1033 k1034 k1035 k839) k836) rfl rfl rfl (by decide +kernel) ⟨Nat.le_of_ble_eq_true rfl, Nat.le_of_ble_eq_true rfl⟩) rfl rfl rfl rfl (Nat.le_of_ble_eq_true rfl) dX12_send_3 ⟨(Nat.le_of_ble_eq_true rfl), (Nat.le_of_ble_eq_true rfl)⟩ (fun q_1 H locs hq2 hP hD hS => ?_)
  replace hq2 : (q_1 = 1 ∧ 0 ≤ x.toInt ∧ x.toInt ≤ 7 ∧ x.toInt < (fm 3).toInt ∨ q_1 = 0 ∧ ¬ (0 ≤ x.toInt ∧ x.toInt < (fm 3).toInt)) := hq2
  have hP : va_P g.1 vwCl (List.flatten [bMo g o a th hi ac tp ba en tA fl de iD iO tU fm fk fa fc ft ff fb fi]) H := hP
  have hD : va_D A (List.flatten [bMo g o a th hi ac tp ba en tA fl de iD iO tU fm fk fa fc ft ff fb fi]) := hD
  refine W.widen (k := 0) (n := 0) (Nat.le_of_ble_eq_true rfl) (Nat.le_of_ble_eq_true rfl) ?_
  refine W.eq (g2 := F0 m 6 ls [.int q_1, .ref o]) rfl ?_
  rcases hq2 with ⟨rfl, hq2_k⟩ | ⟨rfl, hq2_k⟩
  · skip
    refine lv_if_ne (tgt := 13) hx hb dX12_send_6 (by decide) (fun _ => ?_) (fun c3 => absurd c3 (by decide))
    refine lv_aload_n hx hb dX12_send_13 rfl (lv_at hl 0 rfl) ?_
    refine lv_iload_n hx hb dX12_send_14 rfl (lv_at hl 1 rfl) ?_
    refine mcallV' (g := g) (q0 := 0) (ci := 10) (As := [.int x]) (rest := [.ref o]) St hK hT hA hP hD hS hl.1 [0] [] rfl rfl rfl (m_isHereG l g o a th hi ac tp ba en tA fl de iD iO tU fm fk fa fc ft ff fb fi x (by first | assumption | omega | decide | exact Or.inl (by decide) | exact Or.inr (by decide))) (cwV 1 hts (zgL (zl4 k846 k847 k848 k839) k841) rfl rfl rfl (by decide +kernel) ⟨Nat.le_of_ble_eq_true rfl, Nat.le_of_ble_eq_true rfl⟩) rfl rfl rfl rfl (Nat.le_of_ble_eq_true rfl) dX12_send_15 ⟨(Nat.le_of_ble_eq_true rfl), (Nat.le_of_ble_eq_true rfl)⟩ (fun q_4 H locs hq5 hP hD hS => ?_)
    replace hq5 : (q_4 = 1 ∧ (zV fm 3 x.toInt.toNat).toInt = -1 ∨ q_4 = 0 ∧ ¬ (zV fm 3 x.toInt.toNat).toInt = -1) := hq5
    have hP : va_P g.1 vwCl (List.flatten [bMo g o a th hi ac tp ba en tA fl de iD iO tU fm fk fa fc ft ff fb fi]) H := hP
    have hD : va_D A (List.flatten [bMo g o a th hi ac tp ba en tA fl de iD iO tU fm fk fa fc ft ff fb fi]) := hD
    refine W.widen (k := 0) (n := 0) (Nat.le_of_ble_eq_true rfl) (Nat.le_of_ble_eq_true rfl) ?_
    refine W.eq (g2 := F0 m 18 ls [.int q_4, .ref o]) rfl ?_
    rcases hq5 with ⟨rfl, hq5_k⟩ | ⟨rfl, hq5_k⟩
    · skip
      refine lv_if_ne (tgt := 25) hx hb dX12_send_18 (by decide) (fun _ => ?_) (fun c6 => absurd c6 (by decide))
      refine lv_iconst (v := 0) hx hb dX12_send_25 (by decide) ?_
      refine va_put (D := g.1) (ci := 10) (v := .int 0) (ty := .int) (C := RX12) (T := TX12) (N := 20) hx hb hts izRX12 tyX12 tyX12_ok nmX12 hown hK hP hD hS 0 rfl rfl 0 (by decide) (hts _ k825) (fun _ h9 => h9) rfl (by decide +kernel) rfl rfl (Nat.le_of_ble_eq_true rfl) dX12_send_26 (fun H locs hP hD hS => ?_)
      have hP : va_P g.1 vwCl (List.flatten [bMo g o a 0 hi ac tp ba en tA fl de iD iO tU fm fk fa fc ft ff fb fi]) H := hP
      have hD : va_D A (List.flatten [bMo g o a 0 hi ac tp ba en tA fl de iD iO tU fm fk fa fc ft ff fb fi]) := hD
      refine lv_aload_n hx hb dX12_send_29 rfl (lv_at hl 0 rfl) ?_
      refine va_get (D := g.1) (ci := 10) (v := .int 0) (C := RX12) (T := TX12) (N := 20) hx hb hts izRX12 hown hK hP 0 rfl rfl 0 (by decide) (hts _ k825) (fun _ h9 => h9) rfl dX12_send_30 ?_
      refine lv_if_le (tgt := 38) hx hb dX12_send_33 (by decide) (fun _ => ?_) (fun c7 => absurd (by decide) c7)
      refine lv_aload_n hx hb dX12_send_38 rfl (lv_at hl 0 rfl) ?_
      refine mcallV' (g := g) (q0 := 0) (ci := 10) (As := []) (rest := []) St hK hT hA hP hD hS hl.1 [0] [] rfl rfl rfl (m_remembers l g o a 0 hi ac tp ba en tA fl de iD iO tU fm fk fa fc ft ff fb fi rfm rfc hac) (cwV 0 hts (zgL (zl4 k1047 k1048 k1049 k839) k1046) rfl rfl rfl (by decide +kernel) ⟨Nat.le_of_ble_eq_true rfl, Nat.le_of_ble_eq_true rfl⟩) rfl rfl rfl rfl (Nat.le_of_ble_eq_true rfl) dX12_send_39 ⟨(Nat.le_of_ble_eq_true rfl), (Nat.le_of_ble_eq_true rfl)⟩ (fun u_ H locs hq10 hP hD hS => ?_)
      obtain ⟨ac2_8, fc2_9⟩ := u_
      replace hq10 : (rC fc2_9) ∧ (0 ≤ ac2_8.toInt ∧ ac2_8.toInt ≤ 12) ∧ (zRem fc fc2_9 ac.toInt ac2_8.toInt fm) := hq10
      have hP : va_P g.1 vwCl (List.flatten [bMo g o a 0 hi ac2_8 tp ba en tA fl de iD iO tU fm fk fa fc2_9 ft ff fb fi]) H := hP
      have hD : va_D A (List.flatten [bMo g o a 0 hi ac2_8 tp ba en tA fl de iD iO tU fm fk fa fc2_9 ft ff fb fi]) := hD
      refine W.widen (k := 0) (n := 0) (Nat.le_of_ble_eq_true rfl) (Nat.le_of_ble_eq_true rfl) ?_
      refine W.eq (g2 := F0 m 42 ls []) rfl ?_
      obtain ⟨rfc2_9, hq10_1, hq10_2⟩ := hq10
      refine lv_aload_n hx hb dX12_send_42 rfl (lv_at hl 0 rfl) ?_
      refine lv_iload_n hx hb dX12_send_43 rfl (lv_at hl 1 rfl) ?_
      refine lv_iconst (v := 4) hx hb dX12_send_44 (by decide) ?_
      refine lv_aload_n hx hb dX12_send_45 rfl (lv_at hl 0 rfl) ?_
      refine va_get (D := g.1) (ci := 10) (v := .ref (a 0)) (C := RX12) (T := TX12) (N := 20) hx hb hts izRX12 hown hK hP 0 rfl rfl 1 (by decide) (hts _ k815) (fun _ h9 => h9) rfl dX12_send_46 ?_
      refine lv_bipush (v := 8) hx hb dX12_send_49 (by decide) ?_
      refine va_iald hx hb hK hP 1 0 rfl rfl (zin rfl) dX12_send_51 ?_
      refine ztop (r := (fm 8)) rfl ?_
      refine lv_aload_n hx hb dX12_send_52 rfl (lv_at hl 0 rfl) ?_
      refine va_get (D := g.1) (ci := 10) (v := .ref (a 0)) (C := RX12) (T := TX12) (N := 20) hx hb hts izRX12 hown hK hP 0 rfl rfl 1 (by decide) (hts _ k815) (fun _ h9 => h9) rfl dX12_send_53 ?_
      refine lv_bipush (v := 6) hx hb dX12_send_56 (by decide) ?_
      refine va_iald hx hb hK hP 1 0 rfl rfl (zin rfl) dX12_send_58 ?_
      refine ztop (r := (fm 6)) rfl ?_
      refine lv_iadd hx hb dX12_send_59 ?_
      refine mcallV' (g := g) (q0 := 0) (ci := 10) (As := [.int x, .int 4, .int ((fm 8) + (fm 6))]) (rest := []) St hK hT hA hP hD hS hl.1 [0] [] rfl rfl rfl (m_put3F l g o a 0 hi ac2_8 tp ba en tA fl de iD iO tU fm fk fa fc2_9 ft ff fb fi x ((fm 8) + (fm 6)) rfm (by first | assumption | omega | decide | exact Or.inl (by decide) | exact Or.inr (by decide))) (cwV 3 hts (zgL (zl4 k909 k910 k911 k839) k832) rfl rfl rfl (by decide +kernel) ⟨Nat.le_of_ble_eq_true rfl, Nat.le_of_ble_eq_true rfl⟩) rfl rfl rfl rfl (Nat.le_of_ble_eq_true rfl) dX12_send_60 ⟨(Nat.le_of_ble_eq_true rfl), (Nat.le_of_ble_eq_true rfl)⟩ (fun fm2_11 H locs hq12 hP hD hS => ?_)
      replace hq12 : (rM fm2_11) ∧ (fm2_11 = upd fm (15 + 5 * x.toInt.toNat) ((fm 8) + (fm 6))) := hq12
      have hP : va_P g.1 vwCl (List.flatten [bMo g o a 0 hi ac2_8 tp ba en tA fl de iD iO tU fm2_11 fk fa fc2_9 ft ff fb fi]) H := hP
      have hD : va_D A (List.flatten [bMo g o a 0 hi ac2_8 tp ba en tA fl de iD iO tU fm2_11 fk fa fc2_9 ft ff fb fi]) := hD
      refine W.widen (k := 0) (n := 0) (Nat.le_of_ble_eq_true rfl) (Nat.le_of_ble_eq_true rfl) ?_
      refine W.eq (g2 := F0 m 63 ls []) rfl ?_
      obtain ⟨rfm2_11, hq12_1⟩ := hq12
      refine lv_aload_n hx hb dX12_send_63 rfl (lv_at hl 0 rfl) ?_
      refine lv_iload_n hx hb dX12_send_64 rfl (lv_at hl 1 rfl) ?_
      refine lv_iconst (v := 4) hx hb dX12_send_65 (by decide) ?_
      refine mcallV' (g := g) (q0 := 0) (ci := 10) (As := [.int x, .int 4]) (rest := []) St hK hT hA hP hD hS hl.1 [0] [] rfl rfl rfl (m_of3F l g o a 0 hi ac2_8 tp ba en tA fl de iD iO tU fm2_11 fk fa fc2_9 ft ff fb fi x (by first | assumption | omega | decide | exact Or.inl (by decide) | exact Or.inr (by decide))) (cwV 2 hts (zgL (zl4 k842 k843 k844 k839) k831) rfl rfl rfl (by decide +kernel) ⟨Nat.le_of_ble_eq_true rfl, Nat.le_of_ble_eq_true rfl⟩) rfl rfl rfl rfl (Nat.le_of_ble_eq_true rfl) dX12_send_66 ⟨(Nat.le_of_ble_eq_true rfl), (Nat.le_of_ble_eq_true rfl)⟩ (fun _u H locs hq13 hP hD hS => ?_)
      have hP : va_P g.1 vwCl (List.flatten [bMo g o a 0 hi ac2_8 tp ba en tA fl de iD iO tU fm2_11 fk fa fc2_9 ft ff fb fi]) H := hP
      have hD : va_D A (List.flatten [bMo g o a 0 hi ac2_8 tp ba en tA fl de iD iO tU fm2_11 fk fa fc2_9 ft ff fb fi]) := hD
      refine W.widen (k := 0) (n := 0) (Nat.le_of_ble_eq_true rfl) (Nat.le_of_ble_eq_true rfl) ?_
      refine W.eq (g2 := F0 m 69 ls [.int (zV fm2_11 3 x.toInt.toNat)]) rfl ?_
      have hP : va_P g.1 vwCl (List.flatten [bMo g o a 0 hi ac2_8 tp ba en tA fl de iD iO tU fm2_11 fk fa fc2_9 ft ff fb fi]) H := hP
      have hD : va_D A (List.flatten [bMo g o a 0 hi ac2_8 tp ba en tA fl de iD iO tU fm2_11 fk fa fc2_9 ft ff fb fi]) := hD
      exact mret_i hx hb hr hlocks hS (Nat.le_of_ble_eq_true rfl) (Nat.le_of_ble_eq_true rfl) dX12_send_69 ((0 : Int32), fm2_11, fc2_9, ac2_8, zV fm2_11 3 x.toInt.toNat) rfl (show (0 ≤ ac2_8.toInt ∧ ac2_8.toInt ≤ 12) ∧ (rC fc2_9) ∧ (rM fm2_11) ∧ (zX9 (0, (zV fm2_11 3 x.toInt.toNat), zM9 fm2_11) (zxSend x (zM9 fm))) ∧ (zMm 0 fc fc2_9 ac.toInt ac2_8.toInt fm) ∧ (zKl fm fm2_11) from ⟨(by first | assumption | omega | decide), (by first | assumption | omega | decide), (by first | assumption | omega | decide), (zxSend_m (by omega) (by omega) (by omega) hq12_1), (zMm_y (by decide) hq10_2), (zKl_u (zKl_r _) hq12_1 (by omega))⟩) hP hD
    · skip
      refine lv_if_ne (tgt := 25) hx hb dX12_send_18 (by decide) (fun c14 => absurd (by decide) c14) (fun _ => ?_)
      refine lv_iconst (v := 2) hx hb dX12_send_21 (by decide) ?_
      refine lv_goto (tgt := 26) hx hb dX12_send_22 (by decide) ?_
      refine va_put (D := g.1) (ci := 10) (v := .int 2) (ty := .int) (C := RX12) (T := TX12) (N := 20) hx hb hts izRX12 tyX12 tyX12_ok nmX12 hown hK hP hD hS 0 rfl rfl 0 (by decide) (hts _ k825) (fun _ h9 => h9) rfl (by decide +kernel) rfl rfl (Nat.le_of_ble_eq_true rfl) dX12_send_26 (fun H locs hP hD hS => ?_)
      have hP : va_P g.1 vwCl (List.flatten [bMo g o a 2 hi ac tp ba en tA fl de iD iO tU fm fk fa fc ft ff fb fi]) H := hP
      have hD : va_D A (List.flatten [bMo g o a 2 hi ac tp ba en tA fl de iD iO tU fm fk fa fc ft ff fb fi]) := hD
      refine lv_aload_n hx hb dX12_send_29 rfl (lv_at hl 0 rfl) ?_
      refine va_get (D := g.1) (ci := 10) (v := .int 2) (C := RX12) (T := TX12) (N := 20) hx hb hts izRX12 hown hK hP 0 rfl rfl 0 (by decide) (hts _ k825) (fun _ h9 => h9) rfl dX12_send_30 ?_
      refine lv_if_le (tgt := 38) hx hb dX12_send_33 (by decide) (fun c15 => absurd c15 (by decide)) (fun _ => ?_)
      refine lv_iconst (v := 0) hx hb dX12_send_36 (by decide) ?_
      have hP : va_P g.1 vwCl (List.flatten [bMo g o a 2 hi ac tp ba en tA fl de iD iO tU fm fk fa fc ft ff fb fi]) H := hP
      have hD : va_D A (List.flatten [bMo g o a 2 hi ac tp ba en tA fl de iD iO tU fm fk fa fc ft ff fb fi]) := hD
      exact mret_i hx hb hr hlocks hS (Nat.le_of_ble_eq_true rfl) (Nat.le_of_ble_eq_true rfl) dX12_send_37 ((2 : Int32), fm, fc, ac, (0 : Int32)) rfl (show (0 ≤ ac.toInt ∧ ac.toInt ≤ 12) ∧ (rC fc) ∧ (rM fm) ∧ (zX9 (2, 0, zM9 fm) (zxSend x (zM9 fm))) ∧ (zMm 2 fc fc ac.toInt ac.toInt fm) ∧ (zKl fm fm) from ⟨(by first | assumption | omega | decide), (by first | assumption | omega | decide), (by first | assumption | omega | decide), (zxSend_m2 (by omega) (by omega)), (zMm_n (by decide)), (zKl_r _)⟩) hP hD
  · skip
    refine lv_if_ne (tgt := 13) hx hb dX12_send_6 (by decide) (fun c16 => absurd (by decide) c16) (fun _ => ?_)
    refine lv_iconst (v := 1) hx hb dX12_send_9 (by decide) ?_
    refine lv_goto (tgt := 26) hx hb dX12_send_10 (by decide) ?_
    refine va_put (D := g.1) (ci := 10) (v := .int 1) (ty := .int) (C := RX12) (T := TX12) (N := 20) hx hb hts izRX12 tyX12 tyX12_ok nmX12 hown hK hP hD hS 0 rfl rfl 0 (by decide) (hts _ k825) (fun _ h9 => h9) rfl (by decide +kernel) rfl rfl (Nat.le_of_ble_eq_true rfl) dX12_send_26 (fun H locs hP hD hS => ?_)
    have hP : va_P g.1 vwCl (List.flatten [bMo g o a 1 hi ac tp ba en tA fl de iD iO tU fm fk fa fc ft ff fb fi]) H := hP
    have hD : va_D A (List.flatten [bMo g o a 1 hi ac tp ba en tA fl de iD iO tU fm fk fa fc ft ff fb fi]) := hD
    refine lv_aload_n hx hb dX12_send_29 rfl (lv_at hl 0 rfl) ?_
    refine va_get (D := g.1) (ci := 10) (v := .int 1) (C := RX12) (T := TX12) (N := 20) hx hb hts izRX12 hown hK hP 0 rfl rfl 0 (by decide) (hts _ k825) (fun _ h9 => h9) rfl dX12_send_30 ?_
    refine lv_if_le (tgt := 38) hx hb dX12_send_33 (by decide) (fun c17 => absurd c17 (by decide)) (fun _ => ?_)
    refine lv_iconst (v := 0) hx hb dX12_send_36 (by decide) ?_
    have hP : va_P g.1 vwCl (List.flatten [bMo g o a 1 hi ac tp ba en tA fl de iD iO tU fm fk fa fc ft ff fb fi]) H := hP
    have hD : va_D A (List.flatten [bMo g o a 1 hi ac tp ba en tA fl de iD iO tU fm fk fa fc ft ff fb fi]) := hD
    exact mret_i hx hb hr hlocks hS (Nat.le_of_ble_eq_true rfl) (Nat.le_of_ble_eq_true rfl) dX12_send_37 ((1 : Int32), fm, fc, ac, (0 : Int32)) rfl (show (0 ≤ ac.toInt ∧ ac.toInt ≤ 12) ∧ (rC fc) ∧ (rM fm) ∧ (zX9 (1, 0, zM9 fm) (zxSend x (zM9 fm))) ∧ (zMm 1 fc fc ac.toInt ac.toInt fm) ∧ (zKl fm fm) from ⟨(by first | assumption | omega | decide), (by first | assumption | omega | decide), (by first | assumption | omega | decide), (zxSend_m1 (by omega)), (zMm_n (by decide)), (zKl_r _)⟩) hP hD
set_option maxRecDepth 100000 in
set_option maxHeartbeats 4000000 in
theorem m_buyC (l : Launch) (g : zG) (o : Nat) (a : Nat → Nat) (th : Int32) (hi : Int32) (ac : Int32) (tp : Int32) (ba : Int32) (en : Int32) (tA : Int32) (fl : Int32) (de : Int32) (iD : Int32) (iO : Int32) (tU : Int32) (fm : Nat → Int32) (fk : Nat → Int32) (fa : Nat → Int32) (fc : Nat → Int32) (ft : Nat → Int32) (ff : Nat → Int32) (fb : Nat → Int32) (fi : Nat → Int32) (x : Int32) (n : Int32) (rfm : rM fm) (rfc : rC fc) (hac : 0 ≤ ac.toInt ∧ ac.toInt ≤ 12) : zM' g l yX12_buy (Cond.code yX12_buy cX12_buy 4 (some .int) :: zB) ({ frames := 5, cells := 0, slots := 0, locals := 106 } : Room) [.ref o, .int x, .int n] [bMo g o a th hi ac tp ba en tA fl de iD iO tU fm fk fa fc ft ff fb fi] (fun u : Int32 × (Nat → Int32) × (Nat → Int32) × Int32 × Int32 => (fun (th2 : Int32) (fm2 : Nat → Int32) (fc2 : Nat → Int32) (ac2 : Int32) (q : Int32) => some (.int q)) (u.1) (u.2.1) (u.2.2.1) (u.2.2.2.1) (u.2.2.2.2)) (fun u : Int32 × (Nat → Int32) × (Nat → Int32) × Int32 × Int32 => (fun (th2 : Int32) (fm2 : Nat → Int32) (fc2 : Nat → Int32) (ac2 : Int32) (q : Int32) => (0 ≤ ac2.toInt ∧ ac2.toInt ≤ 12) ∧ (rC fc2) ∧ (rM fm2) ∧ (zX9 (th2, q, zM9 fm2) (zxBuy x n (zM9 fm))) ∧ (zMm th2 fc fc2 ac.toInt ac2.toInt fm) ∧ (zKl fm fm2)) (u.1) (u.2.1) (u.2.2.1) (u.2.2.2.1) (u.2.2.2.2)) (fun u : Int32 × (Nat → Int32) × (Nat → Int32) × Int32 × Int32 => (fun (th2 : Int32) (fm2 : Nat → Int32) (fc2 : Nat → Int32) (ac2 : Int32) (q : Int32) => [bMo g o a th2 hi ac2 tp ba en tA fl de iD iO tU fm2 fk fa fc2 ft ff fb fi]) (u.1) (u.2.1) (u.2.2.1) (u.2.2.2.1) (u.2.2.2.2)) := by
  refine zM'.of (cc := cX12_buy) (maxL := 4) (rt := (some .int)) (by decide) rfl (Nat.le_of_ble_eq_true rfl) ?_
  intro p e s m args below meth c A ls St hr hlocks hin hK hT hA hP hD hS hl
  obtain ⟨hx, hb, hml, hown, hts⟩ := id St
  have hl : lv_has ls 4 [(0, .ref o), (1, .int x), (2, .int n)] := hl
  have hrm3 := rM3 rfm
  have hrm4 := rM4 rfm
  refine lv_aload_n hx hb dX12_buy_0 rfl (lv_at hl 0 rfl) ?_
  refine lv_aload_n hx hb dX12_buy_1 rfl (lv_at hl 0 rfl) ?_
  refine lv_iload_n hx hb dX12_buy_2 rfl (lv_at hl 1 rfl) ?_
  refine mcallV' (g := g) (q0 := 0) (ci := 10) (As := [.int x]) (rest := [.ref o]) St hK hT hA hP hD hS hl.1 [0] [] rfl rfl rfl (m_isPersonG l g o a th hi ac tp ba en tA fl de iD iO tU fm fk fa fc ft ff fb fi x rfm) (cwV 1 hts (zgL (zl4 k1033 k1034 k1035 k839) k836) rfl rfl rfl (by decide +kernel) ⟨Nat.le_of_ble_eq_true rfl, Nat.le_of_ble_eq_true rfl⟩) rfl rfl rfl rfl (Nat.le_of_ble_eq_true rfl) dX12_buy_3 ⟨(Nat.le_of_ble_eq_true rfl), (Nat.le_of_ble_eq_true rfl)⟩ (fun q_1 H locs hq2 hP hD hS => ?_)
  replace hq2 : (q_1 = 1 ∧ 0 ≤ x.toInt ∧ x.toInt ≤ 7 ∧ x.toInt < (fm 3).toInt ∨ q_1 = 0 ∧ ¬ (0 ≤ x.toInt ∧ x.toInt < (fm 3).toInt)) := hq2
  have hP : va_P g.1 vwCl (List.flatten [bMo g o a th hi ac tp ba en tA fl de iD iO tU fm fk fa fc ft ff fb fi]) H := hP
  have hD : va_D A (List.flatten [bMo g o a th hi ac tp ba en tA fl de iD iO tU fm fk fa fc ft ff fb fi]) := hD
  refine W.widen (k := 0) (n := 0) (Nat.le_of_ble_eq_true rfl) (Nat.le_of_ble_eq_true rfl) ?_
  refine W.eq (g2 := F0 m 6 ls [.int q_1, .ref o]) rfl ?_
  rcases hq2 with ⟨rfl, hq2_k⟩ | ⟨rfl, hq2_k⟩
  · skip
    refine lv_if_ne (tgt := 13) hx hb dX12_buy_6 (by decide) (fun _ => ?_) (fun c3 => absurd c3 (by decide))
    refine lv_iload_n hx hb dX12_buy_13 rfl (lv_at hl 2 rfl) ?_
    refine lv_iconst (v := 1) hx hb dX12_buy_14 (by decide) ?_
    refine lv_bipush (v := 99) hx hb dX12_buy_15 (by decide) ?_
    have hL1 : (1 : Int32).toInt = 1 := by decide
    have hL99 : (99 : Int32).toInt = 99 := by decide
    refine mcallS' (g := g) (As := [.int n, .int 1, .int 99]) (rest := [.ref o]) St hK hT hA hP hD hS hl.1 [] [0] rfl rfl rfl (m_isIn l g n 1 99 ) (va_cwS 3 hts (zgL (zl3 k837 k838 k839) k826) rfl rfl rfl (by decide +kernel) ⟨Nat.le_of_ble_eq_true rfl, Nat.le_of_ble_eq_true rfl⟩) rfl rfl (Nat.le_of_ble_eq_true rfl) dX12_buy_17 ⟨(Nat.le_of_ble_eq_true rfl), (Nat.le_of_ble_eq_true rfl)⟩ (fun q_4 H locs hq5 hP hD hS => ?_)
    replace hq5 : (q_4 = 1 ∧ (1 : Int32).toInt ≤ n.toInt ∧ n.toInt ≤ (99 : Int32).toInt ∨ q_4 = 0 ∧ (n.toInt < (1 : Int32).toInt ∨ (99 : Int32).toInt < n.toInt)) := hq5
    have hP : va_P g.1 vwCl (List.flatten [bMo g o a th hi ac tp ba en tA fl de iD iO tU fm fk fa fc ft ff fb fi]) H := hP
    have hD : va_D A (List.flatten [bMo g o a th hi ac tp ba en tA fl de iD iO tU fm fk fa fc ft ff fb fi]) := hD
    refine W.widen (k := 0) (n := 0) (Nat.le_of_ble_eq_true rfl) (Nat.le_of_ble_eq_true rfl) ?_
    refine W.eq (g2 := F0 m 20 ls [.int q_4, .ref o]) rfl ?_
    rcases hq5 with ⟨rfl, hq5_k⟩ | ⟨rfl, hq5_k⟩
    · skip
      refine lv_if_ne (tgt := 27) hx hb dX12_buy_20 (by decide) (fun _ => ?_) (fun c6 => absurd c6 (by decide))
      refine lv_aload_n hx hb dX12_buy_27 rfl (lv_at hl 0 rfl) ?_
      refine lv_iload_n hx hb dX12_buy_28 rfl (lv_at hl 1 rfl) ?_
      refine lv_iconst (v := 2) hx hb dX12_buy_29 (by decide) ?_
      refine mcallV' (g := g) (q0 := 0) (ci := 10) (As := [.int x, .int 2]) (rest := [.ref o]) St hK hT hA hP hD hS hl.1 [0] [] rfl rfl rfl (m_of2F l g o a th hi ac tp ba en tA fl de iD iO tU fm fk fa fc ft ff fb fi x (by first | assumption | omega | decide | exact Or.inl (by decide) | exact Or.inr (by decide))) (cwV 2 hts (zgL (zl4 k842 k843 k844 k839) k831) rfl rfl rfl (by decide +kernel) ⟨Nat.le_of_ble_eq_true rfl, Nat.le_of_ble_eq_true rfl⟩) rfl rfl rfl rfl (Nat.le_of_ble_eq_true rfl) dX12_buy_30 ⟨(Nat.le_of_ble_eq_true rfl), (Nat.le_of_ble_eq_true rfl)⟩ (fun _u H locs hq7 hP hD hS => ?_)
      have hP : va_P g.1 vwCl (List.flatten [bMo g o a th hi ac tp ba en tA fl de iD iO tU fm fk fa fc ft ff fb fi]) H := hP
      have hD : va_D A (List.flatten [bMo g o a th hi ac tp ba en tA fl de iD iO tU fm fk fa fc ft ff fb fi]) := hD
      refine W.widen (k := 0) (n := 0) (Nat.le_of_ble_eq_true rfl) (Nat.le_of_ble_eq_true rfl) ?_
      refine W.eq (g2 := F0 m 33 ls [.int (zV fm 2 x.toInt.toNat), .ref o]) rfl ?_
      refine lv_iload_n hx hb dX12_buy_33 rfl (lv_at hl 2 rfl) ?_
      refine lv_iadd hx hb dX12_buy_34 ?_
      refine lv_bipush (v := 99) hx hb dX12_buy_35 (by decide) ?_
      refine lv_icmp_gt (tgt := 55) hx hb dX12_buy_37 (by decide) (fun cb9 => ?_) (fun cb9 => ?_)
      · skip
        have c8 : 99 < ((zV fm 2 x.toInt.toNat) + n).toInt := zlti cb9 (by decide) rfl
        have n9 : 100 ≤ ((zV fm 2 x.toInt.toNat) + n).toInt := zL2 (a := 99) c8 (Int.le_refl _) (by decide)
        refine lv_iconst (v := 3) hx hb dX12_buy_55 (by decide) ?_
        refine lv_goto (tgt := 60) hx hb dX12_buy_56 (by decide) ?_
        refine va_put (D := g.1) (ci := 10) (v := .int 3) (ty := .int) (C := RX12) (T := TX12) (N := 20) hx hb hts izRX12 tyX12 tyX12_ok nmX12 hown hK hP hD hS 0 rfl rfl 0 (by decide) (hts _ k825) (fun _ h9 => h9) rfl (by decide +kernel) rfl rfl (Nat.le_of_ble_eq_true rfl) dX12_buy_60 (fun H locs hP hD hS => ?_)
        have hP : va_P g.1 vwCl (List.flatten [bMo g o a 3 hi ac tp ba en tA fl de iD iO tU fm fk fa fc ft ff fb fi]) H := hP
        have hD : va_D A (List.flatten [bMo g o a 3 hi ac tp ba en tA fl de iD iO tU fm fk fa fc ft ff fb fi]) := hD
        refine lv_aload_n hx hb dX12_buy_63 rfl (lv_at hl 0 rfl) ?_
        refine va_get (D := g.1) (ci := 10) (v := .int 3) (C := RX12) (T := TX12) (N := 20) hx hb hts izRX12 hown hK hP 0 rfl rfl 0 (by decide) (hts _ k825) (fun _ h9 => h9) rfl dX12_buy_64 ?_
        refine lv_if_le (tgt := 72) hx hb dX12_buy_67 (by decide) (fun c10 => absurd c10 (by decide)) (fun _ => ?_)
        refine lv_iconst (v := 0) hx hb dX12_buy_70 (by decide) ?_
        have hP : va_P g.1 vwCl (List.flatten [bMo g o a 3 hi ac tp ba en tA fl de iD iO tU fm fk fa fc ft ff fb fi]) H := hP
        have hD : va_D A (List.flatten [bMo g o a 3 hi ac tp ba en tA fl de iD iO tU fm fk fa fc ft ff fb fi]) := hD
        exact mret_i hx hb hr hlocks hS (Nat.le_of_ble_eq_true rfl) (Nat.le_of_ble_eq_true rfl) dX12_buy_71 ((3 : Int32), fm, fc, ac, (0 : Int32)) rfl (show (0 ≤ ac.toInt ∧ ac.toInt ≤ 12) ∧ (rC fc) ∧ (rM fm) ∧ (zX9 (3, 0, zM9 fm) (zxBuy x n (zM9 fm))) ∧ (zMm 3 fc fc ac.toInt ac.toInt fm) ∧ (zKl fm fm) from ⟨(by first | assumption | omega | decide), (by first | assumption | omega | decide), (by first | assumption | omega | decide), (zxBuy_m3 (by omega) (by omega) (by omega)), (zMm_n (by decide)), (zKl_r _)⟩) hP hD
      · skip
        have c11 : ((zV fm 2 x.toInt.toNat) + n).toInt ≤ 99 := zle (Int32.not_lt.mp cb9) rfl (by decide)
        have n12 : ((zV fm 2 x.toInt.toNat) + n).toInt ≤ 99 := Int.le_trans c11 (Int.le_refl _)
        refine lv_aload_n hx hb dX12_buy_40 rfl (lv_at hl 0 rfl) ?_
        refine lv_iload_n hx hb dX12_buy_41 rfl (lv_at hl 1 rfl) ?_
        refine lv_iconst (v := 1) hx hb dX12_buy_42 (by decide) ?_
        refine mcallV' (g := g) (q0 := 0) (ci := 10) (As := [.int x, .int 1]) (rest := [.ref o]) St hK hT hA hP hD hS hl.1 [0] [] rfl rfl rfl (m_of1F l g o a th hi ac tp ba en tA fl de iD iO tU fm fk fa fc ft ff fb fi x (by first | assumption | omega | decide | exact Or.inl (by decide) | exact Or.inr (by decide))) (cwV 2 hts (zgL (zl4 k842 k843 k844 k839) k831) rfl rfl rfl (by decide +kernel) ⟨Nat.le_of_ble_eq_true rfl, Nat.le_of_ble_eq_true rfl⟩) rfl rfl rfl rfl (Nat.le_of_ble_eq_true rfl) dX12_buy_43 ⟨(Nat.le_of_ble_eq_true rfl), (Nat.le_of_ble_eq_true rfl)⟩ (fun _u H locs hq13 hP hD hS => ?_)
        have hP : va_P g.1 vwCl (List.flatten [bMo g o a th hi ac tp ba en tA fl de iD iO tU fm fk fa fc ft ff fb fi]) H := hP
        have hD : va_D A (List.flatten [bMo g o a th hi ac tp ba en tA fl de iD iO tU fm fk fa fc ft ff fb fi]) := hD
        refine W.widen (k := 0) (n := 0) (Nat.le_of_ble_eq_true rfl) (Nat.le_of_ble_eq_true rfl) ?_
        refine W.eq (g2 := F0 m 46 ls [.int (zV fm 1 x.toInt.toNat), .ref o]) rfl ?_
        refine lv_iload_n hx hb dX12_buy_46 rfl (lv_at hl 2 rfl) ?_
        refine lv_aload_n hx hb dX12_buy_47 rfl (lv_at hl 0 rfl) ?_
        refine mcallV' (g := g) (q0 := 0) (ci := 10) (As := []) (rest := [.int n, .int (zV fm 1 x.toInt.toNat), .ref o]) St hK hT hA hP hD hS hl.1 [0] [] rfl rfl rfl (m_priceNowG l g o a th hi ac tp ba en tA fl de iD iO tU fm fk fa fc ft ff fb fi rfm) (cwV 0 hts (zgL (zl4 k1029 k1030 k1031 k839) k862) rfl rfl rfl (by decide +kernel) ⟨Nat.le_of_ble_eq_true rfl, Nat.le_of_ble_eq_true rfl⟩) rfl rfl rfl rfl (Nat.le_of_ble_eq_true rfl) dX12_buy_48 ⟨(Nat.le_of_ble_eq_true rfl), (Nat.le_of_ble_eq_true rfl)⟩ (fun _u H locs hq14 hP hD hS => ?_)
        have hP : va_P g.1 vwCl (List.flatten [bMo g o a th hi ac tp ba en tA fl de iD iO tU fm fk fa fc ft ff fb fi]) H := hP
        have hD : va_D A (List.flatten [bMo g o a th hi ac tp ba en tA fl de iD iO tU fm fk fa fc ft ff fb fi]) := hD
        refine W.widen (k := 0) (n := 0) (Nat.le_of_ble_eq_true rfl) (Nat.le_of_ble_eq_true rfl) ?_
        refine W.eq (g2 := F0 m 51 ls [.int (zPrice (zV fm) (fm 3).toInt.toNat), .int n, .int (zV fm 1 x.toInt.toNat), .ref o]) rfl ?_
        refine lv_imul hx hb dX12_buy_51 ?_
        refine lv_icmp_ge (tgt := 59) hx hb dX12_buy_52 (by decide) (fun cb9 => ?_) (fun cb9 => ?_)
        · skip
          have c15 : (n * (zPrice (zV fm) (fm 3).toInt.toNat)).toInt ≤ (zV fm 1 x.toInt.toNat).toInt := zle cb9 rfl rfl
          refine lv_iconst (v := 0) hx hb dX12_buy_59 (by decide) ?_
          refine va_put (D := g.1) (ci := 10) (v := .int 0) (ty := .int) (C := RX12) (T := TX12) (N := 20) hx hb hts izRX12 tyX12 tyX12_ok nmX12 hown hK hP hD hS 0 rfl rfl 0 (by decide) (hts _ k825) (fun _ h9 => h9) rfl (by decide +kernel) rfl rfl (Nat.le_of_ble_eq_true rfl) dX12_buy_60 (fun H locs hP hD hS => ?_)
          have hP : va_P g.1 vwCl (List.flatten [bMo g o a 0 hi ac tp ba en tA fl de iD iO tU fm fk fa fc ft ff fb fi]) H := hP
          have hD : va_D A (List.flatten [bMo g o a 0 hi ac tp ba en tA fl de iD iO tU fm fk fa fc ft ff fb fi]) := hD
          refine lv_aload_n hx hb dX12_buy_63 rfl (lv_at hl 0 rfl) ?_
          refine va_get (D := g.1) (ci := 10) (v := .int 0) (C := RX12) (T := TX12) (N := 20) hx hb hts izRX12 hown hK hP 0 rfl rfl 0 (by decide) (hts _ k825) (fun _ h9 => h9) rfl dX12_buy_64 ?_
          refine lv_if_le (tgt := 72) hx hb dX12_buy_67 (by decide) (fun _ => ?_) (fun c16 => absurd (by decide) c16)
          refine lv_aload_n hx hb dX12_buy_72 rfl (lv_at hl 0 rfl) ?_
          refine mcallV' (g := g) (q0 := 0) (ci := 10) (As := []) (rest := []) St hK hT hA hP hD hS hl.1 [0] [] rfl rfl rfl (m_remembers l g o a 0 hi ac tp ba en tA fl de iD iO tU fm fk fa fc ft ff fb fi rfm rfc hac) (cwV 0 hts (zgL (zl4 k1047 k1048 k1049 k839) k1046) rfl rfl rfl (by decide +kernel) ⟨Nat.le_of_ble_eq_true rfl, Nat.le_of_ble_eq_true rfl⟩) rfl rfl rfl rfl (Nat.le_of_ble_eq_true rfl) dX12_buy_73 ⟨(Nat.le_of_ble_eq_true rfl), (Nat.le_of_ble_eq_true rfl)⟩ (fun u_ H locs hq19 hP hD hS => ?_)
          obtain ⟨ac2_17, fc2_18⟩ := u_
          replace hq19 : (rC fc2_18) ∧ (0 ≤ ac2_17.toInt ∧ ac2_17.toInt ≤ 12) ∧ (zRem fc fc2_18 ac.toInt ac2_17.toInt fm) := hq19
          have hP : va_P g.1 vwCl (List.flatten [bMo g o a 0 hi ac2_17 tp ba en tA fl de iD iO tU fm fk fa fc2_18 ft ff fb fi]) H := hP
          have hD : va_D A (List.flatten [bMo g o a 0 hi ac2_17 tp ba en tA fl de iD iO tU fm fk fa fc2_18 ft ff fb fi]) := hD
          refine W.widen (k := 0) (n := 0) (Nat.le_of_ble_eq_true rfl) (Nat.le_of_ble_eq_true rfl) ?_
          refine W.eq (g2 := F0 m 76 ls []) rfl ?_
          obtain ⟨rfc2_18, hq19_1, hq19_2⟩ := hq19
          refine lv_iload_n hx hb dX12_buy_76 rfl (lv_at hl 2 rfl) ?_
          refine lv_aload_n hx hb dX12_buy_77 rfl (lv_at hl 0 rfl) ?_
          refine mcallV' (g := g) (q0 := 0) (ci := 10) (As := []) (rest := [.int n]) St hK hT hA hP hD hS hl.1 [0] [] rfl rfl rfl (m_priceNowG l g o a 0 hi ac2_17 tp ba en tA fl de iD iO tU fm fk fa fc2_18 ft ff fb fi rfm) (cwV 0 hts (zgL (zl4 k1029 k1030 k1031 k839) k862) rfl rfl rfl (by decide +kernel) ⟨Nat.le_of_ble_eq_true rfl, Nat.le_of_ble_eq_true rfl⟩) rfl rfl rfl rfl (Nat.le_of_ble_eq_true rfl) dX12_buy_78 ⟨(Nat.le_of_ble_eq_true rfl), (Nat.le_of_ble_eq_true rfl)⟩ (fun _u H locs hq20 hP hD hS => ?_)
          have hP : va_P g.1 vwCl (List.flatten [bMo g o a 0 hi ac2_17 tp ba en tA fl de iD iO tU fm fk fa fc2_18 ft ff fb fi]) H := hP
          have hD : va_D A (List.flatten [bMo g o a 0 hi ac2_17 tp ba en tA fl de iD iO tU fm fk fa fc2_18 ft ff fb fi]) := hD
          refine W.widen (k := 0) (n := 0) (Nat.le_of_ble_eq_true rfl) (Nat.le_of_ble_eq_true rfl) ?_
          refine W.eq (g2 := F0 m 81 ls [.int (zPrice (zV fm) (fm 3).toInt.toNat), .int n]) rfl ?_
          refine lv_imul hx hb dX12_buy_81 ?_
          refine lv_istore_n (lv' := [(3, .int (n * (zPrice (zV fm) (fm 3).toInt.toNat))), (0, .ref o), (1, .int x), (2, .int n)]) hx hb dX12_buy_82 rfl hl (by decide) rfl (fun ls hl => ?_)
          refine lv_aload_n hx hb dX12_buy_83 rfl (lv_at hl 1 rfl) ?_
          refine lv_iload_n hx hb dX12_buy_84 rfl (lv_at hl 2 rfl) ?_
          refine lv_iconst (v := 1) hx hb dX12_buy_85 (by decide) ?_
          refine lv_aload_n hx hb dX12_buy_86 rfl (lv_at hl 1 rfl) ?_
          refine lv_iload_n hx hb dX12_buy_87 rfl (lv_at hl 2 rfl) ?_
          refine lv_iconst (v := 1) hx hb dX12_buy_88 (by decide) ?_
          refine mcallV' (g := g) (q0 := 0) (ci := 10) (As := [.int x, .int 1]) (rest := [.int 1, .int x, .ref o]) St hK hT hA hP hD hS hl.1 [0] [] rfl rfl rfl (m_of1F l g o a 0 hi ac2_17 tp ba en tA fl de iD iO tU fm fk fa fc2_18 ft ff fb fi x (by first | assumption | omega | decide | exact Or.inl (by decide) | exact Or.inr (by decide))) (cwV 2 hts (zgL (zl4 k842 k843 k844 k839) k831) rfl rfl rfl (by decide +kernel) ⟨Nat.le_of_ble_eq_true rfl, Nat.le_of_ble_eq_true rfl⟩) rfl rfl rfl rfl (Nat.le_of_ble_eq_true rfl) dX12_buy_89 ⟨(Nat.le_of_ble_eq_true rfl), (Nat.le_of_ble_eq_true rfl)⟩ (fun _u H locs hq21 hP hD hS => ?_)
          have hP : va_P g.1 vwCl (List.flatten [bMo g o a 0 hi ac2_17 tp ba en tA fl de iD iO tU fm fk fa fc2_18 ft ff fb fi]) H := hP
          have hD : va_D A (List.flatten [bMo g o a 0 hi ac2_17 tp ba en tA fl de iD iO tU fm fk fa fc2_18 ft ff fb fi]) := hD
          refine W.widen (k := 0) (n := 0) (Nat.le_of_ble_eq_true rfl) (Nat.le_of_ble_eq_true rfl) ?_
          refine W.eq (g2 := F0 m 92 ls [.int (zV fm 1 x.toInt.toNat), .int 1, .int x, .ref o]) rfl ?_
          refine lv_iload_n hx hb dX12_buy_92 rfl (lv_at hl 0 rfl) ?_
          refine lv_isub hx hb dX12_buy_93 ?_
          refine mcallV' (g := g) (q0 := 0) (ci := 10) (As := [.int x, .int 1, .int ((zV fm 1 x.toInt.toNat) - (n * (zPrice (zV fm) (fm 3).toInt.toNat)))]) (rest := []) St hK hT hA hP hD hS hl.1 [0] [] rfl rfl rfl (m_put1F l g o a 0 hi ac2_17 tp ba en tA fl de iD iO tU fm fk fa fc2_18 ft ff fb fi x ((zV fm 1 x.toInt.toNat) - (n * (zPrice (zV fm) (fm 3).toInt.toNat))) rfm (by first | assumption | omega | decide | exact Or.inl (by decide) | exact Or.inr (by decide))) (cwV 3 hts (zgL (zl4 k909 k910 k911 k839) k832) rfl rfl rfl (by decide +kernel) ⟨Nat.le_of_ble_eq_true rfl, Nat.le_of_ble_eq_true rfl⟩) rfl rfl rfl rfl (Nat.le_of_ble_eq_true rfl) dX12_buy_94 ⟨(Nat.le_of_ble_eq_true rfl), (Nat.le_of_ble_eq_true rfl)⟩ (fun fm2_22 H locs hq23 hP hD hS => ?_)
          replace hq23 : (rM fm2_22) ∧ (fm2_22 = upd fm (12 + 5 * x.toInt.toNat) ((zV fm 1 x.toInt.toNat) - (n * (zPrice (zV fm) (fm 3).toInt.toNat)))) := hq23
          have hP : va_P g.1 vwCl (List.flatten [bMo g o a 0 hi ac2_17 tp ba en tA fl de iD iO tU fm2_22 fk fa fc2_18 ft ff fb fi]) H := hP
          have hD : va_D A (List.flatten [bMo g o a 0 hi ac2_17 tp ba en tA fl de iD iO tU fm2_22 fk fa fc2_18 ft ff fb fi]) := hD
          refine W.widen (k := 0) (n := 0) (Nat.le_of_ble_eq_true rfl) (Nat.le_of_ble_eq_true rfl) ?_
          refine W.eq (g2 := F0 m 97 ls []) rfl ?_
          obtain ⟨rfm2_22, hq23_1⟩ := hq23
          refine lv_aload_n hx hb dX12_buy_97 rfl (lv_at hl 1 rfl) ?_
          refine lv_iload_n hx hb dX12_buy_98 rfl (lv_at hl 2 rfl) ?_
          refine lv_iconst (v := 2) hx hb dX12_buy_99 (by decide) ?_
          refine lv_aload_n hx hb dX12_buy_100 rfl (lv_at hl 1 rfl) ?_
          refine lv_iload_n hx hb dX12_buy_101 rfl (lv_at hl 2 rfl) ?_
          refine lv_iconst (v := 2) hx hb dX12_buy_102 (by decide) ?_
          refine mcallV' (g := g) (q0 := 0) (ci := 10) (As := [.int x, .int 2]) (rest := [.int 2, .int x, .ref o]) St hK hT hA hP hD hS hl.1 [0] [] rfl rfl rfl (m_of2F l g o a 0 hi ac2_17 tp ba en tA fl de iD iO tU fm2_22 fk fa fc2_18 ft ff fb fi x (by first | assumption | omega | decide | exact Or.inl (by decide) | exact Or.inr (by decide))) (cwV 2 hts (zgL (zl4 k842 k843 k844 k839) k831) rfl rfl rfl (by decide +kernel) ⟨Nat.le_of_ble_eq_true rfl, Nat.le_of_ble_eq_true rfl⟩) rfl rfl rfl rfl (Nat.le_of_ble_eq_true rfl) dX12_buy_103 ⟨(Nat.le_of_ble_eq_true rfl), (Nat.le_of_ble_eq_true rfl)⟩ (fun _u H locs hq24 hP hD hS => ?_)
          have hP : va_P g.1 vwCl (List.flatten [bMo g o a 0 hi ac2_17 tp ba en tA fl de iD iO tU fm2_22 fk fa fc2_18 ft ff fb fi]) H := hP
          have hD : va_D A (List.flatten [bMo g o a 0 hi ac2_17 tp ba en tA fl de iD iO tU fm2_22 fk fa fc2_18 ft ff fb fi]) := hD
          refine W.widen (k := 0) (n := 0) (Nat.le_of_ble_eq_true rfl) (Nat.le_of_ble_eq_true rfl) ?_
          refine W.eq (g2 := F0 m 106 ls [.int (zV fm2_22 2 x.toInt.toNat), .int 2, .int x, .ref o]) rfl ?_
          refine lv_iload_n hx hb dX12_buy_106 rfl (lv_at hl 3 rfl) ?_
          refine lv_iadd hx hb dX12_buy_107 ?_
          refine mcallV' (g := g) (q0 := 0) (ci := 10) (As := [.int x, .int 2, .int ((zV fm2_22 2 x.toInt.toNat) + n)]) (rest := []) St hK hT hA hP hD hS hl.1 [0] [] rfl rfl rfl (m_put2F l g o a 0 hi ac2_17 tp ba en tA fl de iD iO tU fm2_22 fk fa fc2_18 ft ff fb fi x ((zV fm2_22 2 x.toInt.toNat) + n) rfm2_22 (by first | assumption | omega | decide | exact Or.inl (by decide) | exact Or.inr (by decide))) (cwV 3 hts (zgL (zl4 k909 k910 k911 k839) k832) rfl rfl rfl (by decide +kernel) ⟨Nat.le_of_ble_eq_true rfl, Nat.le_of_ble_eq_true rfl⟩) rfl rfl rfl rfl (Nat.le_of_ble_eq_true rfl) dX12_buy_108 ⟨(Nat.le_of_ble_eq_true rfl), (Nat.le_of_ble_eq_true rfl)⟩ (fun fm2_25 H locs hq26 hP hD hS => ?_)
          replace hq26 : (rM fm2_25) ∧ (fm2_25 = upd fm2_22 (13 + 5 * x.toInt.toNat) ((zV fm2_22 2 x.toInt.toNat) + n)) := hq26
          have hP : va_P g.1 vwCl (List.flatten [bMo g o a 0 hi ac2_17 tp ba en tA fl de iD iO tU fm2_25 fk fa fc2_18 ft ff fb fi]) H := hP
          have hD : va_D A (List.flatten [bMo g o a 0 hi ac2_17 tp ba en tA fl de iD iO tU fm2_25 fk fa fc2_18 ft ff fb fi]) := hD
          refine W.widen (k := 0) (n := 0) (Nat.le_of_ble_eq_true rfl) (Nat.le_of_ble_eq_true rfl) ?_
          refine W.eq (g2 := F0 m 111 ls []) rfl ?_
          obtain ⟨rfm2_25, hq26_1⟩ := hq26
          refine lv_aload_n hx hb dX12_buy_111 rfl (lv_at hl 1 rfl) ?_
          refine va_get (D := g.1) (ci := 10) (v := .ref (a 0)) (C := RX12) (T := TX12) (N := 20) hx hb hts izRX12 hown hK hP 0 rfl rfl 1 (by decide) (hts _ k815) (fun _ h9 => h9) rfl dX12_buy_112 ?_
          refine lv_iconst (v := 5) hx hb dX12_buy_115 (by decide) ?_
          refine lv_sipush (v := 9999) hx hb dX12_buy_116 (by decide) ?_
          refine lv_aload_n hx hb dX12_buy_119 rfl (lv_at hl 1 rfl) ?_
          refine va_get (D := g.1) (ci := 10) (v := .ref (a 0)) (C := RX12) (T := TX12) (N := 20) hx hb hts izRX12 hown hK hP 0 rfl rfl 1 (by decide) (hts _ k815) (fun _ h9 => h9) rfl dX12_buy_120 ?_
          refine lv_iconst (v := 5) hx hb dX12_buy_123 (by decide) ?_
          refine va_iald hx hb hK hP 1 0 rfl rfl (zin rfl) dX12_buy_124 ?_
          refine ztop (r := (fm 5)) (by show fm2_25 5 = (fm 5); rw [hq26_1]; refine Eq.trans (pk_un (by omega)) ?_; rw [hq23_1]; refine Eq.trans (pk_un (by omega)) ?_; exact rfl) ?_
          refine lv_iload_n hx hb dX12_buy_125 rfl (lv_at hl 0 rfl) ?_
          refine lv_iadd hx hb dX12_buy_126 ?_
          refine mcallS' (g := g) (As := [.int 9999, .int ((fm 5) + (n * (zPrice (zV fm) (fm 3).toInt.toNat)))]) (rest := [.int 5, .ref (a 0)]) St hK hT hA hP hD hS hl.1 [] [0] rfl rfl rfl (m_lesser9 l g ((fm 5) + (n * (zPrice (zV fm) (fm 3).toInt.toNat))) ) (va_cwS 2 hts (zgL (zl3 k1000 k1001 k839) k827) rfl rfl rfl (by decide +kernel) ⟨Nat.le_of_ble_eq_true rfl, Nat.le_of_ble_eq_true rfl⟩) rfl rfl (Nat.le_of_ble_eq_true rfl) dX12_buy_127 ⟨(Nat.le_of_ble_eq_true rfl), (Nat.le_of_ble_eq_true rfl)⟩ (fun _u H locs hq27 hP hD hS => ?_)
          have hP : va_P g.1 vwCl (List.flatten [bMo g o a 0 hi ac2_17 tp ba en tA fl de iD iO tU fm2_25 fk fa fc2_18 ft ff fb fi]) H := hP
          have hD : va_D A (List.flatten [bMo g o a 0 hi ac2_17 tp ba en tA fl de iD iO tU fm2_25 fk fa fc2_18 ft ff fb fi]) := hD
          refine W.widen (k := 0) (n := 0) (Nat.le_of_ble_eq_true rfl) (Nat.le_of_ble_eq_true rfl) ?_
          refine W.eq (g2 := F0 m 130 ls [.int (zCap ((fm 5) + (n * (zPrice (zV fm) (fm 3).toInt.toNat)))), .int 5, .ref (a 0)]) rfl ?_
          refine va_iast hx hb hK hP hD hS 1 0 rfl rfl (zin rfl) dX12_buy_130 (fun H locs hP hD hS => ?_)
          obtain ⟨fm_28, rfm_28, efm_28, hP, hD⟩ : ∃ fm_28 : Nat → Int32, rM fm_28 ∧ fm_28 = upd fm2_25 5 (zCap ((fm 5) + (n * (zPrice (zV fm) (fm 3).toInt.toNat)))) ∧ va_P g.1 vwCl (List.flatten [bMo g o a 0 hi ac2_17 tp ba en tA fl de iD iO tU fm_28 fk fa fc2_18 ft ff fb fi]) H ∧ va_D A (List.flatten [bMo g o a 0 hi ac2_17 tp ba en tA fl de iD iO tU fm_28 fk fa fc2_18 ft ff fb fi]) := ⟨upd fm2_25 5 (zCap ((fm 5) + (n * (zPrice (zV fm) (fm 3).toInt.toNat)))), (rM_stL rfm2_25 (by decide)), rfl, hP, hD⟩
          refine lv_aload_n hx hb dX12_buy_131 rfl (lv_at hl 1 rfl) ?_
          refine lv_iload_n hx hb dX12_buy_132 rfl (lv_at hl 2 rfl) ?_
          refine lv_iconst (v := 1) hx hb dX12_buy_133 (by decide) ?_
          refine mcallV' (g := g) (q0 := 0) (ci := 10) (As := [.int x, .int 1]) (rest := []) St hK hT hA hP hD hS hl.1 [0] [] rfl rfl rfl (m_of1F l g o a 0 hi ac2_17 tp ba en tA fl de iD iO tU fm_28 fk fa fc2_18 ft ff fb fi x (by first | assumption | omega | decide | exact Or.inl (by decide) | exact Or.inr (by decide))) (cwV 2 hts (zgL (zl4 k842 k843 k844 k839) k831) rfl rfl rfl (by decide +kernel) ⟨Nat.le_of_ble_eq_true rfl, Nat.le_of_ble_eq_true rfl⟩) rfl rfl rfl rfl (Nat.le_of_ble_eq_true rfl) dX12_buy_134 ⟨(Nat.le_of_ble_eq_true rfl), (Nat.le_of_ble_eq_true rfl)⟩ (fun _u H locs hq29 hP hD hS => ?_)
          have hP : va_P g.1 vwCl (List.flatten [bMo g o a 0 hi ac2_17 tp ba en tA fl de iD iO tU fm_28 fk fa fc2_18 ft ff fb fi]) H := hP
          have hD : va_D A (List.flatten [bMo g o a 0 hi ac2_17 tp ba en tA fl de iD iO tU fm_28 fk fa fc2_18 ft ff fb fi]) := hD
          refine W.widen (k := 0) (n := 0) (Nat.le_of_ble_eq_true rfl) (Nat.le_of_ble_eq_true rfl) ?_
          refine W.eq (g2 := F0 m 137 ls [.int (zV fm_28 1 x.toInt.toNat)]) rfl ?_
          have hP : va_P g.1 vwCl (List.flatten [bMo g o a 0 hi ac2_17 tp ba en tA fl de iD iO tU fm_28 fk fa fc2_18 ft ff fb fi]) H := hP
          have hD : va_D A (List.flatten [bMo g o a 0 hi ac2_17 tp ba en tA fl de iD iO tU fm_28 fk fa fc2_18 ft ff fb fi]) := hD
          exact mret_i hx hb hr hlocks hS (Nat.le_of_ble_eq_true rfl) (Nat.le_of_ble_eq_true rfl) dX12_buy_137 ((0 : Int32), fm_28, fc2_18, ac2_17, zV fm_28 1 x.toInt.toNat) rfl (show (0 ≤ ac2_17.toInt ∧ ac2_17.toInt ≤ 12) ∧ (rC fc2_18) ∧ (rM fm_28) ∧ (zX9 (0, (zV fm_28 1 x.toInt.toNat), zM9 fm_28) (zxBuy x n (zM9 fm))) ∧ (zMm 0 fc fc2_18 ac.toInt ac2_17.toInt fm) ∧ (zKl fm fm_28) from ⟨(by first | assumption | omega | decide), (by first | assumption | omega | decide), (by first | assumption | omega | decide), (zxBuy_m (by omega) (by omega) (by omega) (by omega) (by omega) hq23_1 hq26_1 efm_28), (zMm_y (by decide) hq19_2), (zKl_u (zKl_u (zKl_u (zKl_r _) hq23_1 (by omega)) hq26_1 (by omega)) efm_28 (by omega))⟩) hP hD
        · skip
          have c30 : (zV fm 1 x.toInt.toNat).toInt < (n * (zPrice (zV fm) (fm 3).toInt.toNat)).toInt := zlti (Int32.not_le.mp cb9) rfl rfl
          refine lv_iconst (v := 3) hx hb dX12_buy_55 (by decide) ?_
          refine lv_goto (tgt := 60) hx hb dX12_buy_56 (by decide) ?_
          refine va_put (D := g.1) (ci := 10) (v := .int 3) (ty := .int) (C := RX12) (T := TX12) (N := 20) hx hb hts izRX12 tyX12 tyX12_ok nmX12 hown hK hP hD hS 0 rfl rfl 0 (by decide) (hts _ k825) (fun _ h9 => h9) rfl (by decide +kernel) rfl rfl (Nat.le_of_ble_eq_true rfl) dX12_buy_60 (fun H locs hP hD hS => ?_)
          have hP : va_P g.1 vwCl (List.flatten [bMo g o a 3 hi ac tp ba en tA fl de iD iO tU fm fk fa fc ft ff fb fi]) H := hP
          have hD : va_D A (List.flatten [bMo g o a 3 hi ac tp ba en tA fl de iD iO tU fm fk fa fc ft ff fb fi]) := hD
          refine lv_aload_n hx hb dX12_buy_63 rfl (lv_at hl 0 rfl) ?_
          refine va_get (D := g.1) (ci := 10) (v := .int 3) (C := RX12) (T := TX12) (N := 20) hx hb hts izRX12 hown hK hP 0 rfl rfl 0 (by decide) (hts _ k825) (fun _ h9 => h9) rfl dX12_buy_64 ?_
          refine lv_if_le (tgt := 72) hx hb dX12_buy_67 (by decide) (fun c31 => absurd c31 (by decide)) (fun _ => ?_)
          refine lv_iconst (v := 0) hx hb dX12_buy_70 (by decide) ?_
          have hP : va_P g.1 vwCl (List.flatten [bMo g o a 3 hi ac tp ba en tA fl de iD iO tU fm fk fa fc ft ff fb fi]) H := hP
          have hD : va_D A (List.flatten [bMo g o a 3 hi ac tp ba en tA fl de iD iO tU fm fk fa fc ft ff fb fi]) := hD
          exact mret_i hx hb hr hlocks hS (Nat.le_of_ble_eq_true rfl) (Nat.le_of_ble_eq_true rfl) dX12_buy_71 ((3 : Int32), fm, fc, ac, (0 : Int32)) rfl (show (0 ≤ ac.toInt ∧ ac.toInt ≤ 12) ∧ (rC fc) ∧ (rM fm) ∧ (zX9 (3, 0, zM9 fm) (zxBuy x n (zM9 fm))) ∧ (zMm 3 fc fc ac.toInt ac.toInt fm) ∧ (zKl fm fm) from ⟨(by first | assumption | omega | decide), (by first | assumption | omega | decide), (by first | assumption | omega | decide), (zxBuy_m3 (by omega) (by omega) (by omega)), (zMm_n (by decide)), (zKl_r _)⟩) hP hD
    · skip
      refine lv_if_ne (tgt := 27) hx hb dX12_buy_20 (by decide) (fun c32 => absurd (by decide) c32) (fun _ => ?_)
      refine lv_iconst (v := 2) hx hb dX12_buy_23 (by decide) ?_
      refine lv_goto (tgt := 60) hx hb dX12_buy_24 (by decide) ?_
      refine va_put (D := g.1) (ci := 10) (v := .int 2) (ty := .int) (C := RX12) (T := TX12) (N := 20) hx hb hts izRX12 tyX12 tyX12_ok nmX12 hown hK hP hD hS 0 rfl rfl 0 (by decide) (hts _ k825) (fun _ h9 => h9) rfl (by decide +kernel) rfl rfl (Nat.le_of_ble_eq_true rfl) dX12_buy_60 (fun H locs hP hD hS => ?_)
      have hP : va_P g.1 vwCl (List.flatten [bMo g o a 2 hi ac tp ba en tA fl de iD iO tU fm fk fa fc ft ff fb fi]) H := hP
      have hD : va_D A (List.flatten [bMo g o a 2 hi ac tp ba en tA fl de iD iO tU fm fk fa fc ft ff fb fi]) := hD
      refine lv_aload_n hx hb dX12_buy_63 rfl (lv_at hl 0 rfl) ?_
      refine va_get (D := g.1) (ci := 10) (v := .int 2) (C := RX12) (T := TX12) (N := 20) hx hb hts izRX12 hown hK hP 0 rfl rfl 0 (by decide) (hts _ k825) (fun _ h9 => h9) rfl dX12_buy_64 ?_
      refine lv_if_le (tgt := 72) hx hb dX12_buy_67 (by decide) (fun c33 => absurd c33 (by decide)) (fun _ => ?_)
      refine lv_iconst (v := 0) hx hb dX12_buy_70 (by decide) ?_
      have hP : va_P g.1 vwCl (List.flatten [bMo g o a 2 hi ac tp ba en tA fl de iD iO tU fm fk fa fc ft ff fb fi]) H := hP
      have hD : va_D A (List.flatten [bMo g o a 2 hi ac tp ba en tA fl de iD iO tU fm fk fa fc ft ff fb fi]) := hD
      exact mret_i hx hb hr hlocks hS (Nat.le_of_ble_eq_true rfl) (Nat.le_of_ble_eq_true rfl) dX12_buy_71 ((2 : Int32), fm, fc, ac, (0 : Int32)) rfl (show (0 ≤ ac.toInt ∧ ac.toInt ≤ 12) ∧ (rC fc) ∧ (rM fm) ∧ (zX9 (2, 0, zM9 fm) (zxBuy x n (zM9 fm))) ∧ (zMm 2 fc fc ac.toInt ac.toInt fm) ∧ (zKl fm fm) from ⟨(by first | assumption | omega | decide), (by first | assumption | omega | decide), (by first | assumption | omega | decide), (zxBuy_m2 (by omega) (by omega)), (zMm_n (by decide)), (zKl_r _)⟩) hP hD
  · skip
    refine lv_if_ne (tgt := 13) hx hb dX12_buy_6 (by decide) (fun c34 => absurd (by decide) c34) (fun _ => ?_)
    refine lv_iconst (v := 1) hx hb dX12_buy_9 (by decide) ?_
    refine lv_goto (tgt := 60) hx hb dX12_buy_10 (by decide) ?_
    refine va_put (D := g.1) (ci := 10) (v := .int 1) (ty := .int) (C := RX12) (T := TX12) (N := 20) hx hb hts izRX12 tyX12 tyX12_ok nmX12 hown hK hP hD hS 0 rfl rfl 0 (by decide) (hts _ k825) (fun _ h9 => h9) rfl (by decide +kernel) rfl rfl (Nat.le_of_ble_eq_true rfl) dX12_buy_60 (fun H locs hP hD hS => ?_)
    have hP : va_P g.1 vwCl (List.flatten [bMo g o a 1 hi ac tp ba en tA fl de iD iO tU fm fk fa fc ft ff fb fi]) H := hP
    have hD : va_D A (List.flatten [bMo g o a 1 hi ac tp ba en tA fl de iD iO tU fm fk fa fc ft ff fb fi]) := hD
    refine lv_aload_n hx hb dX12_buy_63 rfl (lv_at hl 0 rfl) ?_
    refine va_get (D := g.1) (ci := 10) (v := .int 1) (C := RX12) (T := TX12) (N := 20) hx hb hts izRX12 hown hK hP 0 rfl rfl 0 (by decide) (hts _ k825) (fun _ h9 => h9) rfl dX12_buy_64 ?_
    refine lv_if_le (tgt := 72) hx hb dX12_buy_67 (by decide) (fun c35 => absurd c35 (by decide)) (fun _ => ?_)
    refine lv_iconst (v := 0) hx hb dX12_buy_70 (by decide) ?_
    have hP : va_P g.1 vwCl (List.flatten [bMo g o a 1 hi ac tp ba en tA fl de iD iO tU fm fk fa fc ft ff fb fi]) H := hP
    have hD : va_D A (List.flatten [bMo g o a 1 hi ac tp ba en tA fl de iD iO tU fm fk fa fc ft ff fb fi]) := hD
    exact mret_i hx hb hr hlocks hS (Nat.le_of_ble_eq_true rfl) (Nat.le_of_ble_eq_true rfl) dX12_buy_71 ((1 : Int32), fm, fc, ac, (0 : Int32)) rfl (show (0 ≤ ac.toInt ∧ ac.toInt ≤ 12) ∧ (rC fc) ∧ (rM fm) ∧ (zX9 (1, 0, zM9 fm) (zxBuy x n (zM9 fm))) ∧ (zMm 1 fc fc ac.toInt ac.toInt fm) ∧ (zKl fm fm) from ⟨(by first | assumption | omega | decide), (by first | assumption | omega | decide), (by first | assumption | omega | decide), (zxBuy_m1 (by omega)), (zMm_n (by decide)), (zKl_r _)⟩) hP hD
set_option maxRecDepth 100000 in
set_option maxHeartbeats 4000000 in
theorem m_sellC (l : Launch) (g : zG) (o : Nat) (a : Nat → Nat) (th : Int32) (hi : Int32) (ac : Int32) (tp : Int32) (ba : Int32) (en : Int32) (tA : Int32) (fl : Int32) (de : Int32) (iD : Int32) (iO : Int32) (tU : Int32) (fm : Nat → Int32) (fk : Nat → Int32) (fa : Nat → Int32) (fc : Nat → Int32) (ft : Nat → Int32) (ff : Nat → Int32) (fb : Nat → Int32) (fi : Nat → Int32) (x : Int32) (n : Int32) (rfm : rM fm) (rfc : rC fc) (hac : 0 ≤ ac.toInt ∧ ac.toInt ≤ 12) : zM' g l yX12_sell (Cond.code yX12_sell cX12_sell 4 (some .int) :: zB) ({ frames := 5, cells := 0, slots := 0, locals := 106 } : Room) [.ref o, .int x, .int n] [bMo g o a th hi ac tp ba en tA fl de iD iO tU fm fk fa fc ft ff fb fi] (fun u : Int32 × (Nat → Int32) × (Nat → Int32) × Int32 × Int32 => (fun (th2 : Int32) (fm2 : Nat → Int32) (fc2 : Nat → Int32) (ac2 : Int32) (q : Int32) => some (.int q)) (u.1) (u.2.1) (u.2.2.1) (u.2.2.2.1) (u.2.2.2.2)) (fun u : Int32 × (Nat → Int32) × (Nat → Int32) × Int32 × Int32 => (fun (th2 : Int32) (fm2 : Nat → Int32) (fc2 : Nat → Int32) (ac2 : Int32) (q : Int32) => (0 ≤ ac2.toInt ∧ ac2.toInt ≤ 12) ∧ (rC fc2) ∧ (rM fm2) ∧ (zX9 (th2, q, zM9 fm2) (zxSell x n (zM9 fm))) ∧ (zMm th2 fc fc2 ac.toInt ac2.toInt fm) ∧ (zKl fm fm2)) (u.1) (u.2.1) (u.2.2.1) (u.2.2.2.1) (u.2.2.2.2)) (fun u : Int32 × (Nat → Int32) × (Nat → Int32) × Int32 × Int32 => (fun (th2 : Int32) (fm2 : Nat → Int32) (fc2 : Nat → Int32) (ac2 : Int32) (q : Int32) => [bMo g o a th2 hi ac2 tp ba en tA fl de iD iO tU fm2 fk fa fc2 ft ff fb fi]) (u.1) (u.2.1) (u.2.2.1) (u.2.2.2.1) (u.2.2.2.2)) := by
  refine zM'.of (cc := cX12_sell) (maxL := 4) (rt := (some .int)) (by decide) rfl (Nat.le_of_ble_eq_true rfl) ?_
  intro p e s m args below meth c A ls St hr hlocks hin hK hT hA hP hD hS hl
  obtain ⟨hx, hb, hml, hown, hts⟩ := id St
  have hl : lv_has ls 4 [(0, .ref o), (1, .int x), (2, .int n)] := hl
  have hrm3 := rM3 rfm
  have hrm4 := rM4 rfm
  refine lv_aload_n hx hb dX12_sell_0 rfl (lv_at hl 0 rfl) ?_
  refine lv_aload_n hx hb dX12_sell_1 rfl (lv_at hl 0 rfl) ?_
  refine lv_iload_n hx hb dX12_sell_2 rfl (lv_at hl 1 rfl) ?_
  refine mcallV' (g := g) (q0 := 0) (ci := 10) (As := [.int x]) (rest := [.ref o]) St hK hT hA hP hD hS hl.1 [0] [] rfl rfl rfl (m_isPersonG l g o a th hi ac tp ba en tA fl de iD iO tU fm fk fa fc ft ff fb fi x rfm) (cwV 1 hts (zgL (zl4 k1033 k1034 k1035 k839) k836) rfl rfl rfl (by decide +kernel) ⟨Nat.le_of_ble_eq_true rfl, Nat.le_of_ble_eq_true rfl⟩) rfl rfl rfl rfl (Nat.le_of_ble_eq_true rfl) dX12_sell_3 ⟨(Nat.le_of_ble_eq_true rfl), (Nat.le_of_ble_eq_true rfl)⟩ (fun q_1 H locs hq2 hP hD hS => ?_)
  replace hq2 : (q_1 = 1 ∧ 0 ≤ x.toInt ∧ x.toInt ≤ 7 ∧ x.toInt < (fm 3).toInt ∨ q_1 = 0 ∧ ¬ (0 ≤ x.toInt ∧ x.toInt < (fm 3).toInt)) := hq2
  have hP : va_P g.1 vwCl (List.flatten [bMo g o a th hi ac tp ba en tA fl de iD iO tU fm fk fa fc ft ff fb fi]) H := hP
  have hD : va_D A (List.flatten [bMo g o a th hi ac tp ba en tA fl de iD iO tU fm fk fa fc ft ff fb fi]) := hD
  refine W.widen (k := 0) (n := 0) (Nat.le_of_ble_eq_true rfl) (Nat.le_of_ble_eq_true rfl) ?_
  refine W.eq (g2 := F0 m 6 ls [.int q_1, .ref o]) rfl ?_
  rcases hq2 with ⟨rfl, hq2_k⟩ | ⟨rfl, hq2_k⟩
  · skip
    refine lv_if_ne (tgt := 13) hx hb dX12_sell_6 (by decide) (fun _ => ?_) (fun c3 => absurd c3 (by decide))
    refine lv_iload_n hx hb dX12_sell_13 rfl (lv_at hl 2 rfl) ?_
    refine lv_iconst (v := 1) hx hb dX12_sell_14 (by decide) ?_
    refine lv_bipush (v := 99) hx hb dX12_sell_15 (by decide) ?_
    have hL1 : (1 : Int32).toInt = 1 := by decide
    have hL99 : (99 : Int32).toInt = 99 := by decide
    refine mcallS' (g := g) (As := [.int n, .int 1, .int 99]) (rest := [.ref o]) St hK hT hA hP hD hS hl.1 [] [0] rfl rfl rfl (m_isIn l g n 1 99 ) (va_cwS 3 hts (zgL (zl3 k837 k838 k839) k826) rfl rfl rfl (by decide +kernel) ⟨Nat.le_of_ble_eq_true rfl, Nat.le_of_ble_eq_true rfl⟩) rfl rfl (Nat.le_of_ble_eq_true rfl) dX12_sell_17 ⟨(Nat.le_of_ble_eq_true rfl), (Nat.le_of_ble_eq_true rfl)⟩ (fun q_4 H locs hq5 hP hD hS => ?_)
    replace hq5 : (q_4 = 1 ∧ (1 : Int32).toInt ≤ n.toInt ∧ n.toInt ≤ (99 : Int32).toInt ∨ q_4 = 0 ∧ (n.toInt < (1 : Int32).toInt ∨ (99 : Int32).toInt < n.toInt)) := hq5
    have hP : va_P g.1 vwCl (List.flatten [bMo g o a th hi ac tp ba en tA fl de iD iO tU fm fk fa fc ft ff fb fi]) H := hP
    have hD : va_D A (List.flatten [bMo g o a th hi ac tp ba en tA fl de iD iO tU fm fk fa fc ft ff fb fi]) := hD
    refine W.widen (k := 0) (n := 0) (Nat.le_of_ble_eq_true rfl) (Nat.le_of_ble_eq_true rfl) ?_
    refine W.eq (g2 := F0 m 20 ls [.int q_4, .ref o]) rfl ?_
    rcases hq5 with ⟨rfl, hq5_k⟩ | ⟨rfl, hq5_k⟩
    · skip
      refine lv_if_ne (tgt := 27) hx hb dX12_sell_20 (by decide) (fun _ => ?_) (fun c6 => absurd c6 (by decide))
      refine lv_aload_n hx hb dX12_sell_27 rfl (lv_at hl 0 rfl) ?_
      refine lv_iload_n hx hb dX12_sell_28 rfl (lv_at hl 1 rfl) ?_
      refine lv_iconst (v := 2) hx hb dX12_sell_29 (by decide) ?_
      refine mcallV' (g := g) (q0 := 0) (ci := 10) (As := [.int x, .int 2]) (rest := [.ref o]) St hK hT hA hP hD hS hl.1 [0] [] rfl rfl rfl (m_of2F l g o a th hi ac tp ba en tA fl de iD iO tU fm fk fa fc ft ff fb fi x (by first | assumption | omega | decide | exact Or.inl (by decide) | exact Or.inr (by decide))) (cwV 2 hts (zgL (zl4 k842 k843 k844 k839) k831) rfl rfl rfl (by decide +kernel) ⟨Nat.le_of_ble_eq_true rfl, Nat.le_of_ble_eq_true rfl⟩) rfl rfl rfl rfl (Nat.le_of_ble_eq_true rfl) dX12_sell_30 ⟨(Nat.le_of_ble_eq_true rfl), (Nat.le_of_ble_eq_true rfl)⟩ (fun _u H locs hq7 hP hD hS => ?_)
      have hP : va_P g.1 vwCl (List.flatten [bMo g o a th hi ac tp ba en tA fl de iD iO tU fm fk fa fc ft ff fb fi]) H := hP
      have hD : va_D A (List.flatten [bMo g o a th hi ac tp ba en tA fl de iD iO tU fm fk fa fc ft ff fb fi]) := hD
      refine W.widen (k := 0) (n := 0) (Nat.le_of_ble_eq_true rfl) (Nat.le_of_ble_eq_true rfl) ?_
      refine W.eq (g2 := F0 m 33 ls [.int (zV fm 2 x.toInt.toNat), .ref o]) rfl ?_
      refine lv_iload_n hx hb dX12_sell_33 rfl (lv_at hl 2 rfl) ?_
      refine lv_icmp_lt (tgt := 52) hx hb dX12_sell_34 (by decide) (fun cb9 => ?_) (fun cb9 => ?_)
      · skip
        have c8 : (zV fm 2 x.toInt.toNat).toInt < n.toInt := zlti cb9 rfl rfl
        refine lv_iconst (v := 3) hx hb dX12_sell_52 (by decide) ?_
        refine lv_goto (tgt := 57) hx hb dX12_sell_53 (by decide) ?_
        refine va_put (D := g.1) (ci := 10) (v := .int 3) (ty := .int) (C := RX12) (T := TX12) (N := 20) hx hb hts izRX12 tyX12 tyX12_ok nmX12 hown hK hP hD hS 0 rfl rfl 0 (by decide) (hts _ k825) (fun _ h9 => h9) rfl (by decide +kernel) rfl rfl (Nat.le_of_ble_eq_true rfl) dX12_sell_57 (fun H locs hP hD hS => ?_)
        have hP : va_P g.1 vwCl (List.flatten [bMo g o a 3 hi ac tp ba en tA fl de iD iO tU fm fk fa fc ft ff fb fi]) H := hP
        have hD : va_D A (List.flatten [bMo g o a 3 hi ac tp ba en tA fl de iD iO tU fm fk fa fc ft ff fb fi]) := hD
        refine lv_aload_n hx hb dX12_sell_60 rfl (lv_at hl 0 rfl) ?_
        refine va_get (D := g.1) (ci := 10) (v := .int 3) (C := RX12) (T := TX12) (N := 20) hx hb hts izRX12 hown hK hP 0 rfl rfl 0 (by decide) (hts _ k825) (fun _ h9 => h9) rfl dX12_sell_61 ?_
        refine lv_if_le (tgt := 69) hx hb dX12_sell_64 (by decide) (fun c9 => absurd c9 (by decide)) (fun _ => ?_)
        refine lv_iconst (v := 0) hx hb dX12_sell_67 (by decide) ?_
        have hP : va_P g.1 vwCl (List.flatten [bMo g o a 3 hi ac tp ba en tA fl de iD iO tU fm fk fa fc ft ff fb fi]) H := hP
        have hD : va_D A (List.flatten [bMo g o a 3 hi ac tp ba en tA fl de iD iO tU fm fk fa fc ft ff fb fi]) := hD
        exact mret_i hx hb hr hlocks hS (Nat.le_of_ble_eq_true rfl) (Nat.le_of_ble_eq_true rfl) dX12_sell_68 ((3 : Int32), fm, fc, ac, (0 : Int32)) rfl (show (0 ≤ ac.toInt ∧ ac.toInt ≤ 12) ∧ (rC fc) ∧ (rM fm) ∧ (zX9 (3, 0, zM9 fm) (zxSell x n (zM9 fm))) ∧ (zMm 3 fc fc ac.toInt ac.toInt fm) ∧ (zKl fm fm) from ⟨(by first | assumption | omega | decide), (by first | assumption | omega | decide), (by first | assumption | omega | decide), (zxSell_m3 (by omega) (by omega) (by omega)), (zMm_n (by decide)), (zKl_r _)⟩) hP hD
      · skip
        have c10 : n.toInt ≤ (zV fm 2 x.toInt.toNat).toInt := zle (Int32.not_lt.mp cb9) rfl rfl
        refine lv_aload_n hx hb dX12_sell_37 rfl (lv_at hl 0 rfl) ?_
        refine va_get (D := g.1) (ci := 10) (v := .ref (a 0)) (C := RX12) (T := TX12) (N := 20) hx hb hts izRX12 hown hK hP 0 rfl rfl 1 (by decide) (hts _ k815) (fun _ h9 => h9) rfl dX12_sell_38 ?_
        refine lv_iconst (v := 5) hx hb dX12_sell_41 (by decide) ?_
        refine va_iald hx hb hK hP 1 0 rfl rfl (zin rfl) dX12_sell_42 ?_
        refine ztop (r := (fm 5)) rfl ?_
        refine lv_iload_n hx hb dX12_sell_43 rfl (lv_at hl 2 rfl) ?_
        refine lv_aload_n hx hb dX12_sell_44 rfl (lv_at hl 0 rfl) ?_
        refine mcallV' (g := g) (q0 := 0) (ci := 10) (As := []) (rest := [.int n, .int (fm 5), .ref o]) St hK hT hA hP hD hS hl.1 [0] [] rfl rfl rfl (m_priceNowG l g o a th hi ac tp ba en tA fl de iD iO tU fm fk fa fc ft ff fb fi rfm) (cwV 0 hts (zgL (zl4 k1029 k1030 k1031 k839) k862) rfl rfl rfl (by decide +kernel) ⟨Nat.le_of_ble_eq_true rfl, Nat.le_of_ble_eq_true rfl⟩) rfl rfl rfl rfl (Nat.le_of_ble_eq_true rfl) dX12_sell_45 ⟨(Nat.le_of_ble_eq_true rfl), (Nat.le_of_ble_eq_true rfl)⟩ (fun _u H locs hq11 hP hD hS => ?_)
        have hP : va_P g.1 vwCl (List.flatten [bMo g o a th hi ac tp ba en tA fl de iD iO tU fm fk fa fc ft ff fb fi]) H := hP
        have hD : va_D A (List.flatten [bMo g o a th hi ac tp ba en tA fl de iD iO tU fm fk fa fc ft ff fb fi]) := hD
        refine W.widen (k := 0) (n := 0) (Nat.le_of_ble_eq_true rfl) (Nat.le_of_ble_eq_true rfl) ?_
        refine W.eq (g2 := F0 m 48 ls [.int (zPrice (zV fm) (fm 3).toInt.toNat), .int n, .int (fm 5), .ref o]) rfl ?_
        refine lv_imul hx hb dX12_sell_48 ?_
        refine lv_icmp_ge (tgt := 56) hx hb dX12_sell_49 (by decide) (fun cb9 => ?_) (fun cb9 => ?_)
        · skip
          have c12 : (n * (zPrice (zV fm) (fm 3).toInt.toNat)).toInt ≤ (fm 5).toInt := zle cb9 rfl rfl
          refine lv_iconst (v := 0) hx hb dX12_sell_56 (by decide) ?_
          refine va_put (D := g.1) (ci := 10) (v := .int 0) (ty := .int) (C := RX12) (T := TX12) (N := 20) hx hb hts izRX12 tyX12 tyX12_ok nmX12 hown hK hP hD hS 0 rfl rfl 0 (by decide) (hts _ k825) (fun _ h9 => h9) rfl (by decide +kernel) rfl rfl (Nat.le_of_ble_eq_true rfl) dX12_sell_57 (fun H locs hP hD hS => ?_)
          have hP : va_P g.1 vwCl (List.flatten [bMo g o a 0 hi ac tp ba en tA fl de iD iO tU fm fk fa fc ft ff fb fi]) H := hP
          have hD : va_D A (List.flatten [bMo g o a 0 hi ac tp ba en tA fl de iD iO tU fm fk fa fc ft ff fb fi]) := hD
          refine lv_aload_n hx hb dX12_sell_60 rfl (lv_at hl 0 rfl) ?_
          refine va_get (D := g.1) (ci := 10) (v := .int 0) (C := RX12) (T := TX12) (N := 20) hx hb hts izRX12 hown hK hP 0 rfl rfl 0 (by decide) (hts _ k825) (fun _ h9 => h9) rfl dX12_sell_61 ?_
          refine lv_if_le (tgt := 69) hx hb dX12_sell_64 (by decide) (fun _ => ?_) (fun c13 => absurd (by decide) c13)
          refine lv_aload_n hx hb dX12_sell_69 rfl (lv_at hl 0 rfl) ?_
          refine mcallV' (g := g) (q0 := 0) (ci := 10) (As := []) (rest := []) St hK hT hA hP hD hS hl.1 [0] [] rfl rfl rfl (m_remembers l g o a 0 hi ac tp ba en tA fl de iD iO tU fm fk fa fc ft ff fb fi rfm rfc hac) (cwV 0 hts (zgL (zl4 k1047 k1048 k1049 k839) k1046) rfl rfl rfl (by decide +kernel) ⟨Nat.le_of_ble_eq_true rfl, Nat.le_of_ble_eq_true rfl⟩) rfl rfl rfl rfl (Nat.le_of_ble_eq_true rfl) dX12_sell_70 ⟨(Nat.le_of_ble_eq_true rfl), (Nat.le_of_ble_eq_true rfl)⟩ (fun u_ H locs hq16 hP hD hS => ?_)
          obtain ⟨ac2_14, fc2_15⟩ := u_
          replace hq16 : (rC fc2_15) ∧ (0 ≤ ac2_14.toInt ∧ ac2_14.toInt ≤ 12) ∧ (zRem fc fc2_15 ac.toInt ac2_14.toInt fm) := hq16
          have hP : va_P g.1 vwCl (List.flatten [bMo g o a 0 hi ac2_14 tp ba en tA fl de iD iO tU fm fk fa fc2_15 ft ff fb fi]) H := hP
          have hD : va_D A (List.flatten [bMo g o a 0 hi ac2_14 tp ba en tA fl de iD iO tU fm fk fa fc2_15 ft ff fb fi]) := hD
          refine W.widen (k := 0) (n := 0) (Nat.le_of_ble_eq_true rfl) (Nat.le_of_ble_eq_true rfl) ?_
          refine W.eq (g2 := F0 m 73 ls []) rfl ?_
          obtain ⟨rfc2_15, hq16_1, hq16_2⟩ := hq16
          refine lv_iload_n hx hb dX12_sell_73 rfl (lv_at hl 2 rfl) ?_
          refine lv_aload_n hx hb dX12_sell_74 rfl (lv_at hl 0 rfl) ?_
          refine mcallV' (g := g) (q0 := 0) (ci := 10) (As := []) (rest := [.int n]) St hK hT hA hP hD hS hl.1 [0] [] rfl rfl rfl (m_priceNowG l g o a 0 hi ac2_14 tp ba en tA fl de iD iO tU fm fk fa fc2_15 ft ff fb fi rfm) (cwV 0 hts (zgL (zl4 k1029 k1030 k1031 k839) k862) rfl rfl rfl (by decide +kernel) ⟨Nat.le_of_ble_eq_true rfl, Nat.le_of_ble_eq_true rfl⟩) rfl rfl rfl rfl (Nat.le_of_ble_eq_true rfl) dX12_sell_75 ⟨(Nat.le_of_ble_eq_true rfl), (Nat.le_of_ble_eq_true rfl)⟩ (fun _u H locs hq17 hP hD hS => ?_)
          have hP : va_P g.1 vwCl (List.flatten [bMo g o a 0 hi ac2_14 tp ba en tA fl de iD iO tU fm fk fa fc2_15 ft ff fb fi]) H := hP
          have hD : va_D A (List.flatten [bMo g o a 0 hi ac2_14 tp ba en tA fl de iD iO tU fm fk fa fc2_15 ft ff fb fi]) := hD
          refine W.widen (k := 0) (n := 0) (Nat.le_of_ble_eq_true rfl) (Nat.le_of_ble_eq_true rfl) ?_
          refine W.eq (g2 := F0 m 78 ls [.int (zPrice (zV fm) (fm 3).toInt.toNat), .int n]) rfl ?_
          refine lv_imul hx hb dX12_sell_78 ?_
          refine lv_istore_n (lv' := [(3, .int (n * (zPrice (zV fm) (fm 3).toInt.toNat))), (0, .ref o), (1, .int x), (2, .int n)]) hx hb dX12_sell_79 rfl hl (by decide) rfl (fun ls hl => ?_)
          refine lv_aload_n hx hb dX12_sell_80 rfl (lv_at hl 1 rfl) ?_
          refine lv_iload_n hx hb dX12_sell_81 rfl (lv_at hl 2 rfl) ?_
          refine lv_iconst (v := 1) hx hb dX12_sell_82 (by decide) ?_
          refine lv_sipush (v := 9999) hx hb dX12_sell_83 (by decide) ?_
          refine lv_aload_n hx hb dX12_sell_86 rfl (lv_at hl 1 rfl) ?_
          refine lv_iload_n hx hb dX12_sell_87 rfl (lv_at hl 2 rfl) ?_
          refine lv_iconst (v := 1) hx hb dX12_sell_88 (by decide) ?_
          refine mcallV' (g := g) (q0 := 0) (ci := 10) (As := [.int x, .int 1]) (rest := [.int 9999, .int 1, .int x, .ref o]) St hK hT hA hP hD hS hl.1 [0] [] rfl rfl rfl (m_of1F l g o a 0 hi ac2_14 tp ba en tA fl de iD iO tU fm fk fa fc2_15 ft ff fb fi x (by first | assumption | omega | decide | exact Or.inl (by decide) | exact Or.inr (by decide))) (cwV 2 hts (zgL (zl4 k842 k843 k844 k839) k831) rfl rfl rfl (by decide +kernel) ⟨Nat.le_of_ble_eq_true rfl, Nat.le_of_ble_eq_true rfl⟩) rfl rfl rfl rfl (Nat.le_of_ble_eq_true rfl) dX12_sell_89 ⟨(Nat.le_of_ble_eq_true rfl), (Nat.le_of_ble_eq_true rfl)⟩ (fun _u H locs hq18 hP hD hS => ?_)
          have hP : va_P g.1 vwCl (List.flatten [bMo g o a 0 hi ac2_14 tp ba en tA fl de iD iO tU fm fk fa fc2_15 ft ff fb fi]) H := hP
          have hD : va_D A (List.flatten [bMo g o a 0 hi ac2_14 tp ba en tA fl de iD iO tU fm fk fa fc2_15 ft ff fb fi]) := hD
          refine W.widen (k := 0) (n := 0) (Nat.le_of_ble_eq_true rfl) (Nat.le_of_ble_eq_true rfl) ?_
          refine W.eq (g2 := F0 m 92 ls [.int (zV fm 1 x.toInt.toNat), .int 9999, .int 1, .int x, .ref o]) rfl ?_
          refine lv_iload_n hx hb dX12_sell_92 rfl (lv_at hl 0 rfl) ?_
          refine lv_iadd hx hb dX12_sell_93 ?_
          refine mcallS' (g := g) (As := [.int 9999, .int ((zV fm 1 x.toInt.toNat) + (n * (zPrice (zV fm) (fm 3).toInt.toNat)))]) (rest := [.int 1, .int x, .ref o]) St hK hT hA hP hD hS hl.1 [] [0] rfl rfl rfl (m_lesser9 l g ((zV fm 1 x.toInt.toNat) + (n * (zPrice (zV fm) (fm 3).toInt.toNat))) ) (va_cwS 2 hts (zgL (zl3 k1000 k1001 k839) k827) rfl rfl rfl (by decide +kernel) ⟨Nat.le_of_ble_eq_true rfl, Nat.le_of_ble_eq_true rfl⟩) rfl rfl (Nat.le_of_ble_eq_true rfl) dX12_sell_94 ⟨(Nat.le_of_ble_eq_true rfl), (Nat.le_of_ble_eq_true rfl)⟩ (fun _u H locs hq19 hP hD hS => ?_)
          have hP : va_P g.1 vwCl (List.flatten [bMo g o a 0 hi ac2_14 tp ba en tA fl de iD iO tU fm fk fa fc2_15 ft ff fb fi]) H := hP
          have hD : va_D A (List.flatten [bMo g o a 0 hi ac2_14 tp ba en tA fl de iD iO tU fm fk fa fc2_15 ft ff fb fi]) := hD
          refine W.widen (k := 0) (n := 0) (Nat.le_of_ble_eq_true rfl) (Nat.le_of_ble_eq_true rfl) ?_
          refine W.eq (g2 := F0 m 97 ls [.int (zCap ((zV fm 1 x.toInt.toNat) + (n * (zPrice (zV fm) (fm 3).toInt.toNat)))), .int 1, .int x, .ref o]) rfl ?_
          refine mcallV' (g := g) (q0 := 0) (ci := 10) (As := [.int x, .int 1, .int (zCap ((zV fm 1 x.toInt.toNat) + (n * (zPrice (zV fm) (fm 3).toInt.toNat))))]) (rest := []) St hK hT hA hP hD hS hl.1 [0] [] rfl rfl rfl (m_put1F l g o a 0 hi ac2_14 tp ba en tA fl de iD iO tU fm fk fa fc2_15 ft ff fb fi x (zCap ((zV fm 1 x.toInt.toNat) + (n * (zPrice (zV fm) (fm 3).toInt.toNat)))) rfm (by first | assumption | omega | decide | exact Or.inl (by decide) | exact Or.inr (by decide))) (cwV 3 hts (zgL (zl4 k909 k910 k911 k839) k832) rfl rfl rfl (by decide +kernel) ⟨Nat.le_of_ble_eq_true rfl, Nat.le_of_ble_eq_true rfl⟩) rfl rfl rfl rfl (Nat.le_of_ble_eq_true rfl) dX12_sell_97 ⟨(Nat.le_of_ble_eq_true rfl), (Nat.le_of_ble_eq_true rfl)⟩ (fun fm2_20 H locs hq21 hP hD hS => ?_)
          replace hq21 : (rM fm2_20) ∧ (fm2_20 = upd fm (12 + 5 * x.toInt.toNat) (zCap ((zV fm 1 x.toInt.toNat) + (n * (zPrice (zV fm) (fm 3).toInt.toNat))))) := hq21
          have hP : va_P g.1 vwCl (List.flatten [bMo g o a 0 hi ac2_14 tp ba en tA fl de iD iO tU fm2_20 fk fa fc2_15 ft ff fb fi]) H := hP
          have hD : va_D A (List.flatten [bMo g o a 0 hi ac2_14 tp ba en tA fl de iD iO tU fm2_20 fk fa fc2_15 ft ff fb fi]) := hD
          refine W.widen (k := 0) (n := 0) (Nat.le_of_ble_eq_true rfl) (Nat.le_of_ble_eq_true rfl) ?_
          refine W.eq (g2 := F0 m 100 ls []) rfl ?_
          obtain ⟨rfm2_20, hq21_1⟩ := hq21
          refine lv_aload_n hx hb dX12_sell_100 rfl (lv_at hl 1 rfl) ?_
          refine lv_iload_n hx hb dX12_sell_101 rfl (lv_at hl 2 rfl) ?_
          refine lv_iconst (v := 2) hx hb dX12_sell_102 (by decide) ?_
          refine lv_aload_n hx hb dX12_sell_103 rfl (lv_at hl 1 rfl) ?_
          refine lv_iload_n hx hb dX12_sell_104 rfl (lv_at hl 2 rfl) ?_
          refine lv_iconst (v := 2) hx hb dX12_sell_105 (by decide) ?_
          refine mcallV' (g := g) (q0 := 0) (ci := 10) (As := [.int x, .int 2]) (rest := [.int 2, .int x, .ref o]) St hK hT hA hP hD hS hl.1 [0] [] rfl rfl rfl (m_of2F l g o a 0 hi ac2_14 tp ba en tA fl de iD iO tU fm2_20 fk fa fc2_15 ft ff fb fi x (by first | assumption | omega | decide | exact Or.inl (by decide) | exact Or.inr (by decide))) (cwV 2 hts (zgL (zl4 k842 k843 k844 k839) k831) rfl rfl rfl (by decide +kernel) ⟨Nat.le_of_ble_eq_true rfl, Nat.le_of_ble_eq_true rfl⟩) rfl rfl rfl rfl (Nat.le_of_ble_eq_true rfl) dX12_sell_106 ⟨(Nat.le_of_ble_eq_true rfl), (Nat.le_of_ble_eq_true rfl)⟩ (fun _u H locs hq22 hP hD hS => ?_)
          have hP : va_P g.1 vwCl (List.flatten [bMo g o a 0 hi ac2_14 tp ba en tA fl de iD iO tU fm2_20 fk fa fc2_15 ft ff fb fi]) H := hP
          have hD : va_D A (List.flatten [bMo g o a 0 hi ac2_14 tp ba en tA fl de iD iO tU fm2_20 fk fa fc2_15 ft ff fb fi]) := hD
          refine W.widen (k := 0) (n := 0) (Nat.le_of_ble_eq_true rfl) (Nat.le_of_ble_eq_true rfl) ?_
          refine W.eq (g2 := F0 m 109 ls [.int (zV fm2_20 2 x.toInt.toNat), .int 2, .int x, .ref o]) rfl ?_
          refine lv_iload_n hx hb dX12_sell_109 rfl (lv_at hl 3 rfl) ?_
          refine lv_isub hx hb dX12_sell_110 ?_
          refine mcallV' (g := g) (q0 := 0) (ci := 10) (As := [.int x, .int 2, .int ((zV fm2_20 2 x.toInt.toNat) - n)]) (rest := []) St hK hT hA hP hD hS hl.1 [0] [] rfl rfl rfl (m_put2F l g o a 0 hi ac2_14 tp ba en tA fl de iD iO tU fm2_20 fk fa fc2_15 ft ff fb fi x ((zV fm2_20 2 x.toInt.toNat) - n) rfm2_20 (by first | assumption | omega | decide | exact Or.inl (by decide) | exact Or.inr (by decide))) (cwV 3 hts (zgL (zl4 k909 k910 k911 k839) k832) rfl rfl rfl (by decide +kernel) ⟨Nat.le_of_ble_eq_true rfl, Nat.le_of_ble_eq_true rfl⟩) rfl rfl rfl rfl (Nat.le_of_ble_eq_true rfl) dX12_sell_111 ⟨(Nat.le_of_ble_eq_true rfl), (Nat.le_of_ble_eq_true rfl)⟩ (fun fm2_23 H locs hq24 hP hD hS => ?_)
          replace hq24 : (rM fm2_23) ∧ (fm2_23 = upd fm2_20 (13 + 5 * x.toInt.toNat) ((zV fm2_20 2 x.toInt.toNat) - n)) := hq24
          have hP : va_P g.1 vwCl (List.flatten [bMo g o a 0 hi ac2_14 tp ba en tA fl de iD iO tU fm2_23 fk fa fc2_15 ft ff fb fi]) H := hP
          have hD : va_D A (List.flatten [bMo g o a 0 hi ac2_14 tp ba en tA fl de iD iO tU fm2_23 fk fa fc2_15 ft ff fb fi]) := hD
          refine W.widen (k := 0) (n := 0) (Nat.le_of_ble_eq_true rfl) (Nat.le_of_ble_eq_true rfl) ?_
          refine W.eq (g2 := F0 m 114 ls []) rfl ?_
          obtain ⟨rfm2_23, hq24_1⟩ := hq24
          refine lv_aload_n hx hb dX12_sell_114 rfl (lv_at hl 1 rfl) ?_
          refine va_get (D := g.1) (ci := 10) (v := .ref (a 0)) (C := RX12) (T := TX12) (N := 20) hx hb hts izRX12 hown hK hP 0 rfl rfl 1 (by decide) (hts _ k815) (fun _ h9 => h9) rfl dX12_sell_115 ?_
          refine lv_iconst (v := 5) hx hb dX12_sell_118 (by decide) ?_
          refine lv_dup2_11 hx hb dX12_sell_119 rfl rfl ?_
          refine va_iald hx hb hK hP 1 0 rfl rfl (zin rfl) dX12_sell_120 ?_
          refine ztop (r := (fm 5)) (by show fm2_23 5 = (fm 5); rw [hq24_1]; refine Eq.trans (pk_un (by omega)) ?_; rw [hq21_1]; refine Eq.trans (pk_un (by omega)) ?_; exact rfl) ?_
          refine lv_iload_n hx hb dX12_sell_121 rfl (lv_at hl 0 rfl) ?_
          refine lv_isub hx hb dX12_sell_122 ?_
          refine va_iast hx hb hK hP hD hS 1 0 rfl rfl (zin rfl) dX12_sell_123 (fun H locs hP hD hS => ?_)
          obtain ⟨fm_25, rfm_25, efm_25, hP, hD⟩ : ∃ fm_25 : Nat → Int32, rM fm_25 ∧ fm_25 = upd fm2_23 5 ((fm 5) - (n * (zPrice (zV fm) (fm 3).toInt.toNat))) ∧ va_P g.1 vwCl (List.flatten [bMo g o a 0 hi ac2_14 tp ba en tA fl de iD iO tU fm_25 fk fa fc2_15 ft ff fb fi]) H ∧ va_D A (List.flatten [bMo g o a 0 hi ac2_14 tp ba en tA fl de iD iO tU fm_25 fk fa fc2_15 ft ff fb fi]) := ⟨upd fm2_23 5 ((fm 5) - (n * (zPrice (zV fm) (fm 3).toInt.toNat))), (rM_stL rfm2_23 (by decide)), rfl, hP, hD⟩
          refine lv_aload_n hx hb dX12_sell_124 rfl (lv_at hl 1 rfl) ?_
          refine lv_iload_n hx hb dX12_sell_125 rfl (lv_at hl 2 rfl) ?_
          refine lv_iconst (v := 1) hx hb dX12_sell_126 (by decide) ?_
          refine mcallV' (g := g) (q0 := 0) (ci := 10) (As := [.int x, .int 1]) (rest := []) St hK hT hA hP hD hS hl.1 [0] [] rfl rfl rfl (m_of1F l g o a 0 hi ac2_14 tp ba en tA fl de iD iO tU fm_25 fk fa fc2_15 ft ff fb fi x (by first | assumption | omega | decide | exact Or.inl (by decide) | exact Or.inr (by decide))) (cwV 2 hts (zgL (zl4 k842 k843 k844 k839) k831) rfl rfl rfl (by decide +kernel) ⟨Nat.le_of_ble_eq_true rfl, Nat.le_of_ble_eq_true rfl⟩) rfl rfl rfl rfl (Nat.le_of_ble_eq_true rfl) dX12_sell_127 ⟨(Nat.le_of_ble_eq_true rfl), (Nat.le_of_ble_eq_true rfl)⟩ (fun _u H locs hq26 hP hD hS => ?_)
          have hP : va_P g.1 vwCl (List.flatten [bMo g o a 0 hi ac2_14 tp ba en tA fl de iD iO tU fm_25 fk fa fc2_15 ft ff fb fi]) H := hP
          have hD : va_D A (List.flatten [bMo g o a 0 hi ac2_14 tp ba en tA fl de iD iO tU fm_25 fk fa fc2_15 ft ff fb fi]) := hD
          refine W.widen (k := 0) (n := 0) (Nat.le_of_ble_eq_true rfl) (Nat.le_of_ble_eq_true rfl) ?_
          refine W.eq (g2 := F0 m 130 ls [.int (zV fm_25 1 x.toInt.toNat)]) rfl ?_
          have hP : va_P g.1 vwCl (List.flatten [bMo g o a 0 hi ac2_14 tp ba en tA fl de iD iO tU fm_25 fk fa fc2_15 ft ff fb fi]) H := hP
          have hD : va_D A (List.flatten [bMo g o a 0 hi ac2_14 tp ba en tA fl de iD iO tU fm_25 fk fa fc2_15 ft ff fb fi]) := hD
          exact mret_i hx hb hr hlocks hS (Nat.le_of_ble_eq_true rfl) (Nat.le_of_ble_eq_true rfl) dX12_sell_130 ((0 : Int32), fm_25, fc2_15, ac2_14, zV fm_25 1 x.toInt.toNat) rfl (show (0 ≤ ac2_14.toInt ∧ ac2_14.toInt ≤ 12) ∧ (rC fc2_15) ∧ (rM fm_25) ∧ (zX9 (0, (zV fm_25 1 x.toInt.toNat), zM9 fm_25) (zxSell x n (zM9 fm))) ∧ (zMm 0 fc fc2_15 ac.toInt ac2_14.toInt fm) ∧ (zKl fm fm_25) from ⟨(by first | assumption | omega | decide), (by first | assumption | omega | decide), (by first | assumption | omega | decide), (zxSell_m (by omega) (by omega) (by omega) (by omega) (by omega) hq21_1 hq24_1 efm_25), (zMm_y (by decide) hq16_2), (zKl_u (zKl_u (zKl_u (zKl_r _) hq21_1 (by omega)) hq24_1 (by omega)) efm_25 (by omega))⟩) hP hD
        · skip
          have c27 : (fm 5).toInt < (n * (zPrice (zV fm) (fm 3).toInt.toNat)).toInt := zlti (Int32.not_le.mp cb9) rfl rfl
          refine lv_iconst (v := 3) hx hb dX12_sell_52 (by decide) ?_
          refine lv_goto (tgt := 57) hx hb dX12_sell_53 (by decide) ?_
          refine va_put (D := g.1) (ci := 10) (v := .int 3) (ty := .int) (C := RX12) (T := TX12) (N := 20) hx hb hts izRX12 tyX12 tyX12_ok nmX12 hown hK hP hD hS 0 rfl rfl 0 (by decide) (hts _ k825) (fun _ h9 => h9) rfl (by decide +kernel) rfl rfl (Nat.le_of_ble_eq_true rfl) dX12_sell_57 (fun H locs hP hD hS => ?_)
          have hP : va_P g.1 vwCl (List.flatten [bMo g o a 3 hi ac tp ba en tA fl de iD iO tU fm fk fa fc ft ff fb fi]) H := hP
          have hD : va_D A (List.flatten [bMo g o a 3 hi ac tp ba en tA fl de iD iO tU fm fk fa fc ft ff fb fi]) := hD
          refine lv_aload_n hx hb dX12_sell_60 rfl (lv_at hl 0 rfl) ?_
          refine va_get (D := g.1) (ci := 10) (v := .int 3) (C := RX12) (T := TX12) (N := 20) hx hb hts izRX12 hown hK hP 0 rfl rfl 0 (by decide) (hts _ k825) (fun _ h9 => h9) rfl dX12_sell_61 ?_
          refine lv_if_le (tgt := 69) hx hb dX12_sell_64 (by decide) (fun c28 => absurd c28 (by decide)) (fun _ => ?_)
          refine lv_iconst (v := 0) hx hb dX12_sell_67 (by decide) ?_
          have hP : va_P g.1 vwCl (List.flatten [bMo g o a 3 hi ac tp ba en tA fl de iD iO tU fm fk fa fc ft ff fb fi]) H := hP
          have hD : va_D A (List.flatten [bMo g o a 3 hi ac tp ba en tA fl de iD iO tU fm fk fa fc ft ff fb fi]) := hD
          exact mret_i hx hb hr hlocks hS (Nat.le_of_ble_eq_true rfl) (Nat.le_of_ble_eq_true rfl) dX12_sell_68 ((3 : Int32), fm, fc, ac, (0 : Int32)) rfl (show (0 ≤ ac.toInt ∧ ac.toInt ≤ 12) ∧ (rC fc) ∧ (rM fm) ∧ (zX9 (3, 0, zM9 fm) (zxSell x n (zM9 fm))) ∧ (zMm 3 fc fc ac.toInt ac.toInt fm) ∧ (zKl fm fm) from ⟨(by first | assumption | omega | decide), (by first | assumption | omega | decide), (by first | assumption | omega | decide), (zxSell_m3 (by omega) (by omega) (by omega)), (zMm_n (by decide)), (zKl_r _)⟩) hP hD
    · skip
      refine lv_if_ne (tgt := 27) hx hb dX12_sell_20 (by decide) (fun c29 => absurd (by decide) c29) (fun _ => ?_)
      refine lv_iconst (v := 2) hx hb dX12_sell_23 (by decide) ?_
      refine lv_goto (tgt := 57) hx hb dX12_sell_24 (by decide) ?_
      refine va_put (D := g.1) (ci := 10) (v := .int 2) (ty := .int) (C := RX12) (T := TX12) (N := 20) hx hb hts izRX12 tyX12 tyX12_ok nmX12 hown hK hP hD hS 0 rfl rfl 0 (by decide) (hts _ k825) (fun _ h9 => h9) rfl (by decide +kernel) rfl rfl (Nat.le_of_ble_eq_true rfl) dX12_sell_57 (fun H locs hP hD hS => ?_)
      have hP : va_P g.1 vwCl (List.flatten [bMo g o a 2 hi ac tp ba en tA fl de iD iO tU fm fk fa fc ft ff fb fi]) H := hP
      have hD : va_D A (List.flatten [bMo g o a 2 hi ac tp ba en tA fl de iD iO tU fm fk fa fc ft ff fb fi]) := hD
      refine lv_aload_n hx hb dX12_sell_60 rfl (lv_at hl 0 rfl) ?_
      refine va_get (D := g.1) (ci := 10) (v := .int 2) (C := RX12) (T := TX12) (N := 20) hx hb hts izRX12 hown hK hP 0 rfl rfl 0 (by decide) (hts _ k825) (fun _ h9 => h9) rfl dX12_sell_61 ?_
      refine lv_if_le (tgt := 69) hx hb dX12_sell_64 (by decide) (fun c30 => absurd c30 (by decide)) (fun _ => ?_)
      refine lv_iconst (v := 0) hx hb dX12_sell_67 (by decide) ?_
      have hP : va_P g.1 vwCl (List.flatten [bMo g o a 2 hi ac tp ba en tA fl de iD iO tU fm fk fa fc ft ff fb fi]) H := hP
      have hD : va_D A (List.flatten [bMo g o a 2 hi ac tp ba en tA fl de iD iO tU fm fk fa fc ft ff fb fi]) := hD
      exact mret_i hx hb hr hlocks hS (Nat.le_of_ble_eq_true rfl) (Nat.le_of_ble_eq_true rfl) dX12_sell_68 ((2 : Int32), fm, fc, ac, (0 : Int32)) rfl (show (0 ≤ ac.toInt ∧ ac.toInt ≤ 12) ∧ (rC fc) ∧ (rM fm) ∧ (zX9 (2, 0, zM9 fm) (zxSell x n (zM9 fm))) ∧ (zMm 2 fc fc ac.toInt ac.toInt fm) ∧ (zKl fm fm) from ⟨(by first | assumption | omega | decide), (by first | assumption | omega | decide), (by first | assumption | omega | decide), (zxSell_m2 (by omega) (by omega)), (zMm_n (by decide)), (zKl_r _)⟩) hP hD
  · skip
    refine lv_if_ne (tgt := 13) hx hb dX12_sell_6 (by decide) (fun c31 => absurd (by decide) c31) (fun _ => ?_)
    refine lv_iconst (v := 1) hx hb dX12_sell_9 (by decide) ?_
    refine lv_goto (tgt := 57) hx hb dX12_sell_10 (by decide) ?_
    refine va_put (D := g.1) (ci := 10) (v := .int 1) (ty := .int) (C := RX12) (T := TX12) (N := 20) hx hb hts izRX12 tyX12 tyX12_ok nmX12 hown hK hP hD hS 0 rfl rfl 0 (by decide) (hts _ k825) (fun _ h9 => h9) rfl (by decide +kernel) rfl rfl (Nat.le_of_ble_eq_true rfl) dX12_sell_57 (fun H locs hP hD hS => ?_)
    have hP : va_P g.1 vwCl (List.flatten [bMo g o a 1 hi ac tp ba en tA fl de iD iO tU fm fk fa fc ft ff fb fi]) H := hP
    have hD : va_D A (List.flatten [bMo g o a 1 hi ac tp ba en tA fl de iD iO tU fm fk fa fc ft ff fb fi]) := hD
    refine lv_aload_n hx hb dX12_sell_60 rfl (lv_at hl 0 rfl) ?_
    refine va_get (D := g.1) (ci := 10) (v := .int 1) (C := RX12) (T := TX12) (N := 20) hx hb hts izRX12 hown hK hP 0 rfl rfl 0 (by decide) (hts _ k825) (fun _ h9 => h9) rfl dX12_sell_61 ?_
    refine lv_if_le (tgt := 69) hx hb dX12_sell_64 (by decide) (fun c32 => absurd c32 (by decide)) (fun _ => ?_)
    refine lv_iconst (v := 0) hx hb dX12_sell_67 (by decide) ?_
    have hP : va_P g.1 vwCl (List.flatten [bMo g o a 1 hi ac tp ba en tA fl de iD iO tU fm fk fa fc ft ff fb fi]) H := hP
    have hD : va_D A (List.flatten [bMo g o a 1 hi ac tp ba en tA fl de iD iO tU fm fk fa fc ft ff fb fi]) := hD
    exact mret_i hx hb hr hlocks hS (Nat.le_of_ble_eq_true rfl) (Nat.le_of_ble_eq_true rfl) dX12_sell_68 ((1 : Int32), fm, fc, ac, (0 : Int32)) rfl (show (0 ≤ ac.toInt ∧ ac.toInt ≤ 12) ∧ (rC fc) ∧ (rM fm) ∧ (zX9 (1, 0, zM9 fm) (zxSell x n (zM9 fm))) ∧ (zMm 1 fc fc ac.toInt ac.toInt fm) ∧ (zKl fm fm) from ⟨(by first | assumption | omega | decide), (by first | assumption | omega | decide), (by first | assumption | omega | decide), (zxSell_m1 (by omega)), (zMm_n (by decide)), (zKl_r _)⟩) hP hD
set_option maxRecDepth 100000 in
set_option maxHeartbeats 4000000 in
theorem m_dryC (l : Launch) (g : zG) (o : Nat) (a : Nat → Nat) (th : Int32) (hi : Int32) (ac : Int32) (tp : Int32) (ba : Int32) (en : Int32) (tA : Int32) (fl : Int32) (de : Int32) (iD : Int32) (iO : Int32) (tU : Int32) (fm : Nat → Int32) (fk : Nat → Int32) (fa : Nat → Int32) (fc : Nat → Int32) (ft : Nat → Int32) (ff : Nat → Int32) (fb : Nat → Int32) (fi : Nat → Int32) (x : Int32) (is : Int32) (rfm : rM fm) (rfc : rC fc) (hac : 0 ≤ ac.toInt ∧ ac.toInt ≤ 12) (hz4 : zZ4 (zV fm)) (his2 : 0 ≤ is.toInt ∧ is.toInt ≤ 1) : zM' g l yX12_dry (Cond.code yX12_dry cX12_dry 4 (some .boolean) :: zB) ({ frames := 2, cells := 0, slots := 0, locals := 43 } : Room) [.ref o, .int x, .int is] [bMo g o a th hi ac tp ba en tA fl de iD iO tU fm fk fa fc ft ff fb fi] (fun u : Int32 × (Nat → Int32) × (Nat → Int32) × Int32 × Int32 => (fun (th2 : Int32) (fm2 : Nat → Int32) (fc2 : Nat → Int32) (ac2 : Int32) (q : Int32) => some (.int q)) (u.1) (u.2.1) (u.2.2.1) (u.2.2.2.1) (u.2.2.2.2)) (fun u : Int32 × (Nat → Int32) × (Nat → Int32) × Int32 × Int32 => (fun (th2 : Int32) (fm2 : Nat → Int32) (fc2 : Nat → Int32) (ac2 : Int32) (q : Int32) => (0 ≤ ac2.toInt ∧ ac2.toInt ≤ 12) ∧ (rC fc2) ∧ (rM fm2) ∧ (zX9 (th2, q, zM9 fm2) (zxDry x is (zM9 fm))) ∧ (zMm th2 fc fc2 ac.toInt ac2.toInt fm) ∧ (zKl fm fm2)) (u.1) (u.2.1) (u.2.2.1) (u.2.2.2.1) (u.2.2.2.2)) (fun u : Int32 × (Nat → Int32) × (Nat → Int32) × Int32 × Int32 => (fun (th2 : Int32) (fm2 : Nat → Int32) (fc2 : Nat → Int32) (ac2 : Int32) (q : Int32) => [bMo g o a th2 hi ac2 tp ba en tA fl de iD iO tU fm2 fk fa fc2 ft ff fb fi]) (u.1) (u.2.1) (u.2.2.1) (u.2.2.2.1) (u.2.2.2.2)) := by
  refine zM'.of (cc := cX12_dry) (maxL := 4) (rt := (some .boolean)) (by decide) rfl (Nat.le_of_ble_eq_true rfl) ?_
  intro p e s m args below meth c A ls St hr hlocks hin hK hT hA hP hD hS hl
  obtain ⟨hx, hb, hml, hown, hts⟩ := id St
  have hl : lv_has ls 4 [(0, .ref o), (1, .int x), (2, .int is)] := hl
  have hrm3 := rM3 rfm
  have hrm4 := rM4 rfm
  refine lv_aload_n hx hb dX12_dry_0 rfl (lv_at hl 0 rfl) ?_
  refine lv_aload_n hx hb dX12_dry_1 rfl (lv_at hl 0 rfl) ?_
  refine lv_iload_n hx hb dX12_dry_2 rfl (lv_at hl 1 rfl) ?_
  refine mcallV' (g := g) (q0 := 0) (ci := 10) (As := [.int x]) (rest := [.ref o]) St hK hT hA hP hD hS hl.1 [0] [] rfl rfl rfl (m_isPersonG l g o a th hi ac tp ba en tA fl de iD iO tU fm fk fa fc ft ff fb fi x rfm) (cwV 1 hts (zgL (zl4 k1033 k1034 k1035 k839) k836) rfl rfl rfl (by decide +kernel) ⟨Nat.le_of_ble_eq_true rfl, Nat.le_of_ble_eq_true rfl⟩) rfl rfl rfl rfl (Nat.le_of_ble_eq_true rfl) dX12_dry_3 ⟨(Nat.le_of_ble_eq_true rfl), (Nat.le_of_ble_eq_true rfl)⟩ (fun q_1 H locs hq2 hP hD hS => ?_)
  replace hq2 : (q_1 = 1 ∧ 0 ≤ x.toInt ∧ x.toInt ≤ 7 ∧ x.toInt < (fm 3).toInt ∨ q_1 = 0 ∧ ¬ (0 ≤ x.toInt ∧ x.toInt < (fm 3).toInt)) := hq2
  have hP : va_P g.1 vwCl (List.flatten [bMo g o a th hi ac tp ba en tA fl de iD iO tU fm fk fa fc ft ff fb fi]) H := hP
  have hD : va_D A (List.flatten [bMo g o a th hi ac tp ba en tA fl de iD iO tU fm fk fa fc ft ff fb fi]) := hD
  refine W.widen (k := 0) (n := 0) (Nat.le_of_ble_eq_true rfl) (Nat.le_of_ble_eq_true rfl) ?_
  refine W.eq (g2 := F0 m 6 ls [.int q_1, .ref o]) rfl ?_
  rcases hq2 with ⟨rfl, hq2_k⟩ | ⟨rfl, hq2_k⟩
  · skip
    refine lv_if_ne (tgt := 13) hx hb dX12_dry_6 (by decide) (fun _ => ?_) (fun c3 => absurd c3 (by decide))
    refine lv_iconst (v := 0) hx hb dX12_dry_13 (by decide) ?_
    refine va_put (D := g.1) (ci := 10) (v := .int 0) (ty := .int) (C := RX12) (T := TX12) (N := 20) hx hb hts izRX12 tyX12 tyX12_ok nmX12 hown hK hP hD hS 0 rfl rfl 0 (by decide) (hts _ k825) (fun _ h9 => h9) rfl (by decide +kernel) rfl rfl (Nat.le_of_ble_eq_true rfl) dX12_dry_14 (fun H locs hP hD hS => ?_)
    have hP : va_P g.1 vwCl (List.flatten [bMo g o a 0 hi ac tp ba en tA fl de iD iO tU fm fk fa fc ft ff fb fi]) H := hP
    have hD : va_D A (List.flatten [bMo g o a 0 hi ac tp ba en tA fl de iD iO tU fm fk fa fc ft ff fb fi]) := hD
    refine lv_aload_n hx hb dX12_dry_17 rfl (lv_at hl 0 rfl) ?_
    refine va_get (D := g.1) (ci := 10) (v := .int 0) (C := RX12) (T := TX12) (N := 20) hx hb hts izRX12 hown hK hP 0 rfl rfl 0 (by decide) (hts _ k825) (fun _ h9 => h9) rfl dX12_dry_18 ?_
    refine lv_if_le (tgt := 26) hx hb dX12_dry_21 (by decide) (fun _ => ?_) (fun c4 => absurd (by decide) c4)
    have hd01 := zD01i (x := x) hz4 (by omega)
    refine lv_aload_n hx hb dX12_dry_26 rfl (lv_at hl 0 rfl) ?_
    refine mcallV' (g := g) (q0 := 0) (ci := 10) (As := []) (rest := []) St hK hT hA hP hD hS hl.1 [0] [] rfl rfl rfl (m_remembers l g o a 0 hi ac tp ba en tA fl de iD iO tU fm fk fa fc ft ff fb fi rfm rfc hac) (cwV 0 hts (zgL (zl4 k1047 k1048 k1049 k839) k1046) rfl rfl rfl (by decide +kernel) ⟨Nat.le_of_ble_eq_true rfl, Nat.le_of_ble_eq_true rfl⟩) rfl rfl rfl rfl (Nat.le_of_ble_eq_true rfl) dX12_dry_27 ⟨(Nat.le_of_ble_eq_true rfl), (Nat.le_of_ble_eq_true rfl)⟩ (fun u_ H locs hq7 hP hD hS => ?_)
    obtain ⟨ac2_5, fc2_6⟩ := u_
    replace hq7 : (rC fc2_6) ∧ (0 ≤ ac2_5.toInt ∧ ac2_5.toInt ≤ 12) ∧ (zRem fc fc2_6 ac.toInt ac2_5.toInt fm) := hq7
    have hP : va_P g.1 vwCl (List.flatten [bMo g o a 0 hi ac2_5 tp ba en tA fl de iD iO tU fm fk fa fc2_6 ft ff fb fi]) H := hP
    have hD : va_D A (List.flatten [bMo g o a 0 hi ac2_5 tp ba en tA fl de iD iO tU fm fk fa fc2_6 ft ff fb fi]) := hD
    refine W.widen (k := 0) (n := 0) (Nat.le_of_ble_eq_true rfl) (Nat.le_of_ble_eq_true rfl) ?_
    refine W.eq (g2 := F0 m 30 ls []) rfl ?_
    obtain ⟨rfc2_6, hq7_1, hq7_2⟩ := hq7
    refine lv_aload_n hx hb dX12_dry_30 rfl (lv_at hl 0 rfl) ?_
    refine lv_iload_n hx hb dX12_dry_31 rfl (lv_at hl 1 rfl) ?_
    refine lv_iconst (v := 3) hx hb dX12_dry_32 (by decide) ?_
    refine mcallV' (g := g) (q0 := 0) (ci := 10) (As := [.int x, .int 3]) (rest := []) St hK hT hA hP hD hS hl.1 [0] [] rfl rfl rfl (m_of4F l g o a 0 hi ac2_5 tp ba en tA fl de iD iO tU fm fk fa fc2_6 ft ff fb fi x (by first | assumption | omega | decide | exact Or.inl (by decide) | exact Or.inr (by decide))) (cwV 2 hts (zgL (zl4 k842 k843 k844 k839) k831) rfl rfl rfl (by decide +kernel) ⟨Nat.le_of_ble_eq_true rfl, Nat.le_of_ble_eq_true rfl⟩) rfl rfl rfl rfl (Nat.le_of_ble_eq_true rfl) dX12_dry_33 ⟨(Nat.le_of_ble_eq_true rfl), (Nat.le_of_ble_eq_true rfl)⟩ (fun _u H locs hq8 hP hD hS => ?_)
    have hP : va_P g.1 vwCl (List.flatten [bMo g o a 0 hi ac2_5 tp ba en tA fl de iD iO tU fm fk fa fc2_6 ft ff fb fi]) H := hP
    have hD : va_D A (List.flatten [bMo g o a 0 hi ac2_5 tp ba en tA fl de iD iO tU fm fk fa fc2_6 ft ff fb fi]) := hD
    refine W.widen (k := 0) (n := 0) (Nat.le_of_ble_eq_true rfl) (Nat.le_of_ble_eq_true rfl) ?_
    refine W.eq (g2 := F0 m 36 ls [.int (zV fm 4 x.toInt.toNat)]) rfl ?_
    refine lv_iconst (v := 1) hx hb dX12_dry_36 (by decide) ?_
    refine lv_icmp_ne (tgt := 44) hx hb dX12_dry_37 (by decide) (fun cb9 => ?_) (fun cb9 => ?_)
    · skip
      have c9 : ¬ (zV fm 4 x.toInt.toNat).toInt = 1 := zne cb9 rfl (by decide)
      refine lv_iconst (v := 0) hx hb dX12_dry_44 (by decide) ?_
      refine lv_istore_n (lv' := [(3, .int 0), (0, .ref o), (1, .int x), (2, .int is)]) hx hb dX12_dry_45 rfl hl (by decide) rfl (fun ls hl => ?_)
      refine lv_aload_n hx hb dX12_dry_46 rfl (lv_at hl 1 rfl) ?_
      refine lv_iload_n hx hb dX12_dry_47 rfl (lv_at hl 2 rfl) ?_
      refine lv_iconst (v := 3) hx hb dX12_dry_48 (by decide) ?_
      refine lv_iload_n hx hb dX12_dry_49 rfl (lv_at hl 3 rfl) ?_
      refine lv_if_eq (tgt := 57) hx hb dX12_dry_50 (by decide) (fun cb9 => ?_) (fun cb9 => ?_)
      · skip
        have c10 : is.toInt = 0 := zeq cb9 rfl (by decide)
        have n11 : 0 ≤ is.toInt := Int.le_trans (Int.le_refl _) (Int.le_of_eq c10.symm)
        have n12 : is.toInt ≤ 0 := Int.le_trans (Int.le_of_eq c10) (Int.le_refl _)
        refine lv_iconst (v := 0) hx hb dX12_dry_57 (by decide) ?_
        refine mcallV' (g := g) (q0 := 0) (ci := 10) (As := [.int x, .int 3, .int 0]) (rest := []) St hK hT hA hP hD hS hl.1 [0] [] rfl rfl rfl (m_put4F l g o a 0 hi ac2_5 tp ba en tA fl de iD iO tU fm fk fa fc2_6 ft ff fb fi x 0 rfm (by first | assumption | omega | decide | exact Or.inl (by decide) | exact Or.inr (by decide))) (cwV 3 hts (zgL (zl4 k909 k910 k911 k839) k832) rfl rfl rfl (by decide +kernel) ⟨Nat.le_of_ble_eq_true rfl, Nat.le_of_ble_eq_true rfl⟩) rfl rfl rfl rfl (Nat.le_of_ble_eq_true rfl) dX12_dry_58 ⟨(Nat.le_of_ble_eq_true rfl), (Nat.le_of_ble_eq_true rfl)⟩ (fun fm2_13 H locs hq14 hP hD hS => ?_)
        replace hq14 : (rM fm2_13) ∧ (fm2_13 = upd fm (14 + 5 * x.toInt.toNat) 0) := hq14
        have hP : va_P g.1 vwCl (List.flatten [bMo g o a 0 hi ac2_5 tp ba en tA fl de iD iO tU fm2_13 fk fa fc2_6 ft ff fb fi]) H := hP
        have hD : va_D A (List.flatten [bMo g o a 0 hi ac2_5 tp ba en tA fl de iD iO tU fm2_13 fk fa fc2_6 ft ff fb fi]) := hD
        refine W.widen (k := 0) (n := 0) (Nat.le_of_ble_eq_true rfl) (Nat.le_of_ble_eq_true rfl) ?_
        refine W.eq (g2 := F0 m 61 ls []) rfl ?_
        obtain ⟨rfm2_13, hq14_1⟩ := hq14
        refine lv_iload_n hx hb dX12_dry_61 rfl (lv_at hl 0 rfl) ?_
        refine lv_iload_n hx hb dX12_dry_62 rfl (lv_at hl 3 rfl) ?_
        refine lv_icmp_eq (tgt := 70) hx hb dX12_dry_63 (by decide) (fun cb9 => ?_) (fun cb9 => ?_)
        · skip
          have c15 : 0 = is.toInt := zeq cb9 (by decide) rfl
          refine lv_iconst (v := 0) hx hb dX12_dry_70 (by decide) ?_
          have hP : va_P g.1 vwCl (List.flatten [bMo g o a 0 hi ac2_5 tp ba en tA fl de iD iO tU fm2_13 fk fa fc2_6 ft ff fb fi]) H := hP
          have hD : va_D A (List.flatten [bMo g o a 0 hi ac2_5 tp ba en tA fl de iD iO tU fm2_13 fk fa fc2_6 ft ff fb fi]) := hD
          exact mret_z hx hb hr hlocks hS (Nat.le_of_ble_eq_true rfl) (Nat.le_of_ble_eq_true rfl) dX12_dry_71 ((0 : Int32), fm2_13, fc2_6, ac2_5, (0 : Int32)) rfl (by decide) (show (0 ≤ ac2_5.toInt ∧ ac2_5.toInt ≤ 12) ∧ (rC fc2_6) ∧ (rM fm2_13) ∧ (zX9 (0, 0, zM9 fm2_13) (zxDry x is (zM9 fm))) ∧ (zMm 0 fc fc2_6 ac.toInt ac2_5.toInt fm) ∧ (zKl fm fm2_13) from ⟨(by first | assumption | omega | decide), (by first | assumption | omega | decide), (by first | assumption | omega | decide), (zxDry_m (by omega) (by omega) hq14_1 (by first | omega | (rw [show (0 : Int32).toInt = 0 by decide]; omega) | (rw [show (1 : Int32).toInt = 1 by decide]; omega)) (Or.inl ⟨by omega, rfl⟩)), (zMm_y (by decide) hq7_2), (zKl_u (zKl_r _) hq14_1 (by omega))⟩) hP hD
        · skip
          exact absurd (show ¬ 0 = is.toInt from zne cb9 (by decide) rfl) (by omega)
      · skip
        have c17 : ¬ is.toInt = 0 := zne cb9 rfl (by decide)
        refine lv_iconst (v := 1) hx hb dX12_dry_53 (by decide) ?_
        refine lv_goto (tgt := 58) hx hb dX12_dry_54 (by decide) ?_
        refine mcallV' (g := g) (q0 := 0) (ci := 10) (As := [.int x, .int 3, .int 1]) (rest := []) St hK hT hA hP hD hS hl.1 [0] [] rfl rfl rfl (m_put4F l g o a 0 hi ac2_5 tp ba en tA fl de iD iO tU fm fk fa fc2_6 ft ff fb fi x 1 rfm (by first | assumption | omega | decide | exact Or.inl (by decide) | exact Or.inr (by decide))) (cwV 3 hts (zgL (zl4 k909 k910 k911 k839) k832) rfl rfl rfl (by decide +kernel) ⟨Nat.le_of_ble_eq_true rfl, Nat.le_of_ble_eq_true rfl⟩) rfl rfl rfl rfl (Nat.le_of_ble_eq_true rfl) dX12_dry_58 ⟨(Nat.le_of_ble_eq_true rfl), (Nat.le_of_ble_eq_true rfl)⟩ (fun fm2_18 H locs hq19 hP hD hS => ?_)
        replace hq19 : (rM fm2_18) ∧ (fm2_18 = upd fm (14 + 5 * x.toInt.toNat) 1) := hq19
        have hP : va_P g.1 vwCl (List.flatten [bMo g o a 0 hi ac2_5 tp ba en tA fl de iD iO tU fm2_18 fk fa fc2_6 ft ff fb fi]) H := hP
        have hD : va_D A (List.flatten [bMo g o a 0 hi ac2_5 tp ba en tA fl de iD iO tU fm2_18 fk fa fc2_6 ft ff fb fi]) := hD
        refine W.widen (k := 0) (n := 0) (Nat.le_of_ble_eq_true rfl) (Nat.le_of_ble_eq_true rfl) ?_
        refine W.eq (g2 := F0 m 61 ls []) rfl ?_
        obtain ⟨rfm2_18, hq19_1⟩ := hq19
        refine lv_iload_n hx hb dX12_dry_61 rfl (lv_at hl 0 rfl) ?_
        refine lv_iload_n hx hb dX12_dry_62 rfl (lv_at hl 3 rfl) ?_
        refine lv_icmp_eq (tgt := 70) hx hb dX12_dry_63 (by decide) (fun cb9 => ?_) (fun cb9 => ?_)
        · skip
          have c20 : 0 = is.toInt := zeq cb9 (by decide) rfl
          have n21 : 0 ≤ is.toInt := Int.le_trans (Int.le_refl _) (Int.le_of_eq c20)
          have n22 : is.toInt ≤ 0 := Int.le_trans (Int.le_of_eq c20.symm) (Int.le_refl _)
          refine lv_iconst (v := 0) hx hb dX12_dry_70 (by decide) ?_
          have hP : va_P g.1 vwCl (List.flatten [bMo g o a 0 hi ac2_5 tp ba en tA fl de iD iO tU fm2_18 fk fa fc2_6 ft ff fb fi]) H := hP
          have hD : va_D A (List.flatten [bMo g o a 0 hi ac2_5 tp ba en tA fl de iD iO tU fm2_18 fk fa fc2_6 ft ff fb fi]) := hD
          exact mret_z hx hb hr hlocks hS (Nat.le_of_ble_eq_true rfl) (Nat.le_of_ble_eq_true rfl) dX12_dry_71 ((0 : Int32), fm2_18, fc2_6, ac2_5, (0 : Int32)) rfl (by decide) (show (0 ≤ ac2_5.toInt ∧ ac2_5.toInt ≤ 12) ∧ (rC fc2_6) ∧ (rM fm2_18) ∧ (zX9 (0, 0, zM9 fm2_18) (zxDry x is (zM9 fm))) ∧ (zMm 0 fc fc2_6 ac.toInt ac2_5.toInt fm) ∧ (zKl fm fm2_18) from ⟨(by first | assumption | omega | decide), (by first | assumption | omega | decide), (by first | assumption | omega | decide), (zxDry_m (by omega) (by omega) hq19_1 (by first | omega | (rw [show (0 : Int32).toInt = 0 by decide]; omega) | (rw [show (1 : Int32).toInt = 1 by decide]; omega)) (Or.inl ⟨by omega, rfl⟩)), (zMm_y (by decide) hq7_2), (zKl_u (zKl_r _) hq19_1 (by omega))⟩) hP hD
        · skip
          have c23 : ¬ 0 = is.toInt := zne cb9 (by decide) rfl
          refine lv_iconst (v := 1) hx hb dX12_dry_66 (by decide) ?_
          refine lv_goto (tgt := 71) hx hb dX12_dry_67 (by decide) ?_
          have hP : va_P g.1 vwCl (List.flatten [bMo g o a 0 hi ac2_5 tp ba en tA fl de iD iO tU fm2_18 fk fa fc2_6 ft ff fb fi]) H := hP
          have hD : va_D A (List.flatten [bMo g o a 0 hi ac2_5 tp ba en tA fl de iD iO tU fm2_18 fk fa fc2_6 ft ff fb fi]) := hD
          exact mret_z hx hb hr hlocks hS (Nat.le_of_ble_eq_true rfl) (Nat.le_of_ble_eq_true rfl) dX12_dry_71 ((0 : Int32), fm2_18, fc2_6, ac2_5, (1 : Int32)) rfl (by decide) (show (0 ≤ ac2_5.toInt ∧ ac2_5.toInt ≤ 12) ∧ (rC fc2_6) ∧ (rM fm2_18) ∧ (zX9 (0, 1, zM9 fm2_18) (zxDry x is (zM9 fm))) ∧ (zMm 0 fc fc2_6 ac.toInt ac2_5.toInt fm) ∧ (zKl fm fm2_18) from ⟨(by first | assumption | omega | decide), (by first | assumption | omega | decide), (by first | assumption | omega | decide), (zxDry_m (by omega) (by omega) hq19_1 (by first | omega | (rw [show (0 : Int32).toInt = 0 by decide]; omega) | (rw [show (1 : Int32).toInt = 1 by decide]; omega)) (Or.inr ⟨by omega, rfl⟩)), (zMm_y (by decide) hq7_2), (zKl_u (zKl_r _) hq19_1 (by omega))⟩) hP hD
    · skip
      have c24 : (zV fm 4 x.toInt.toNat).toInt = 1 := zeq cb9 rfl (by decide)
      have n25 : 1 ≤ (zV fm 4 x.toInt.toNat).toInt := Int.le_trans (Int.le_refl _) (Int.le_of_eq c24.symm)
      have n26 : (zV fm 4 x.toInt.toNat).toInt ≤ 1 := Int.le_trans (Int.le_of_eq c24) (Int.le_refl _)
      refine lv_iconst (v := 1) hx hb dX12_dry_40 (by decide) ?_
      refine lv_goto (tgt := 45) hx hb dX12_dry_41 (by decide) ?_
      refine lv_istore_n (lv' := [(3, .int 1), (0, .ref o), (1, .int x), (2, .int is)]) hx hb dX12_dry_45 rfl hl (by decide) rfl (fun ls hl => ?_)
      refine lv_aload_n hx hb dX12_dry_46 rfl (lv_at hl 1 rfl) ?_
      refine lv_iload_n hx hb dX12_dry_47 rfl (lv_at hl 2 rfl) ?_
      refine lv_iconst (v := 3) hx hb dX12_dry_48 (by decide) ?_
      refine lv_iload_n hx hb dX12_dry_49 rfl (lv_at hl 3 rfl) ?_
      refine lv_if_eq (tgt := 57) hx hb dX12_dry_50 (by decide) (fun cb9 => ?_) (fun cb9 => ?_)
      · skip
        have c27 : is.toInt = 0 := zeq cb9 rfl (by decide)
        have n28 : 0 ≤ is.toInt := Int.le_trans (Int.le_refl _) (Int.le_of_eq c27.symm)
        have n29 : is.toInt ≤ 0 := Int.le_trans (Int.le_of_eq c27) (Int.le_refl _)
        refine lv_iconst (v := 0) hx hb dX12_dry_57 (by decide) ?_
        refine mcallV' (g := g) (q0 := 0) (ci := 10) (As := [.int x, .int 3, .int 0]) (rest := []) St hK hT hA hP hD hS hl.1 [0] [] rfl rfl rfl (m_put4F l g o a 0 hi ac2_5 tp ba en tA fl de iD iO tU fm fk fa fc2_6 ft ff fb fi x 0 rfm (by first | assumption | omega | decide | exact Or.inl (by decide) | exact Or.inr (by decide))) (cwV 3 hts (zgL (zl4 k909 k910 k911 k839) k832) rfl rfl rfl (by decide +kernel) ⟨Nat.le_of_ble_eq_true rfl, Nat.le_of_ble_eq_true rfl⟩) rfl rfl rfl rfl (Nat.le_of_ble_eq_true rfl) dX12_dry_58 ⟨(Nat.le_of_ble_eq_true rfl), (Nat.le_of_ble_eq_true rfl)⟩ (fun fm2_30 H locs hq31 hP hD hS => ?_)
        replace hq31 : (rM fm2_30) ∧ (fm2_30 = upd fm (14 + 5 * x.toInt.toNat) 0) := hq31
        have hP : va_P g.1 vwCl (List.flatten [bMo g o a 0 hi ac2_5 tp ba en tA fl de iD iO tU fm2_30 fk fa fc2_6 ft ff fb fi]) H := hP
        have hD : va_D A (List.flatten [bMo g o a 0 hi ac2_5 tp ba en tA fl de iD iO tU fm2_30 fk fa fc2_6 ft ff fb fi]) := hD
        refine W.widen (k := 0) (n := 0) (Nat.le_of_ble_eq_true rfl) (Nat.le_of_ble_eq_true rfl) ?_
        refine W.eq (g2 := F0 m 61 ls []) rfl ?_
        obtain ⟨rfm2_30, hq31_1⟩ := hq31
        refine lv_iload_n hx hb dX12_dry_61 rfl (lv_at hl 0 rfl) ?_
        refine lv_iload_n hx hb dX12_dry_62 rfl (lv_at hl 3 rfl) ?_
        refine lv_icmp_eq (tgt := 70) hx hb dX12_dry_63 (by decide) (fun cb9 => ?_) (fun cb9 => ?_)
        · skip
          exact absurd (show 1 = is.toInt from zeq cb9 (by decide) rfl) (zDeq2 (a := 1) (b := 0) (Int.le_refl _) n29 (by decide))
        · skip
          have c33 : ¬ 1 = is.toInt := zne cb9 (by decide) rfl
          refine lv_iconst (v := 1) hx hb dX12_dry_66 (by decide) ?_
          refine lv_goto (tgt := 71) hx hb dX12_dry_67 (by decide) ?_
          have hP : va_P g.1 vwCl (List.flatten [bMo g o a 0 hi ac2_5 tp ba en tA fl de iD iO tU fm2_30 fk fa fc2_6 ft ff fb fi]) H := hP
          have hD : va_D A (List.flatten [bMo g o a 0 hi ac2_5 tp ba en tA fl de iD iO tU fm2_30 fk fa fc2_6 ft ff fb fi]) := hD
          exact mret_z hx hb hr hlocks hS (Nat.le_of_ble_eq_true rfl) (Nat.le_of_ble_eq_true rfl) dX12_dry_71 ((0 : Int32), fm2_30, fc2_6, ac2_5, (1 : Int32)) rfl (by decide) (show (0 ≤ ac2_5.toInt ∧ ac2_5.toInt ≤ 12) ∧ (rC fc2_6) ∧ (rM fm2_30) ∧ (zX9 (0, 1, zM9 fm2_30) (zxDry x is (zM9 fm))) ∧ (zMm 0 fc fc2_6 ac.toInt ac2_5.toInt fm) ∧ (zKl fm fm2_30) from ⟨(by first | assumption | omega | decide), (by first | assumption | omega | decide), (by first | assumption | omega | decide), (zxDry_m (by omega) (by omega) hq31_1 (by first | omega | (rw [show (0 : Int32).toInt = 0 by decide]; omega) | (rw [show (1 : Int32).toInt = 1 by decide]; omega)) (Or.inr ⟨by omega, rfl⟩)), (zMm_y (by decide) hq7_2), (zKl_u (zKl_r _) hq31_1 (by omega))⟩) hP hD
      · skip
        have c34 : ¬ is.toInt = 0 := zne cb9 rfl (by decide)
        refine lv_iconst (v := 1) hx hb dX12_dry_53 (by decide) ?_
        refine lv_goto (tgt := 58) hx hb dX12_dry_54 (by decide) ?_
        refine mcallV' (g := g) (q0 := 0) (ci := 10) (As := [.int x, .int 3, .int 1]) (rest := []) St hK hT hA hP hD hS hl.1 [0] [] rfl rfl rfl (m_put4F l g o a 0 hi ac2_5 tp ba en tA fl de iD iO tU fm fk fa fc2_6 ft ff fb fi x 1 rfm (by first | assumption | omega | decide | exact Or.inl (by decide) | exact Or.inr (by decide))) (cwV 3 hts (zgL (zl4 k909 k910 k911 k839) k832) rfl rfl rfl (by decide +kernel) ⟨Nat.le_of_ble_eq_true rfl, Nat.le_of_ble_eq_true rfl⟩) rfl rfl rfl rfl (Nat.le_of_ble_eq_true rfl) dX12_dry_58 ⟨(Nat.le_of_ble_eq_true rfl), (Nat.le_of_ble_eq_true rfl)⟩ (fun fm2_35 H locs hq36 hP hD hS => ?_)
        replace hq36 : (rM fm2_35) ∧ (fm2_35 = upd fm (14 + 5 * x.toInt.toNat) 1) := hq36
        have hP : va_P g.1 vwCl (List.flatten [bMo g o a 0 hi ac2_5 tp ba en tA fl de iD iO tU fm2_35 fk fa fc2_6 ft ff fb fi]) H := hP
        have hD : va_D A (List.flatten [bMo g o a 0 hi ac2_5 tp ba en tA fl de iD iO tU fm2_35 fk fa fc2_6 ft ff fb fi]) := hD
        refine W.widen (k := 0) (n := 0) (Nat.le_of_ble_eq_true rfl) (Nat.le_of_ble_eq_true rfl) ?_
        refine W.eq (g2 := F0 m 61 ls []) rfl ?_
        obtain ⟨rfm2_35, hq36_1⟩ := hq36
        refine lv_iload_n hx hb dX12_dry_61 rfl (lv_at hl 0 rfl) ?_
        refine lv_iload_n hx hb dX12_dry_62 rfl (lv_at hl 3 rfl) ?_
        refine lv_icmp_eq (tgt := 70) hx hb dX12_dry_63 (by decide) (fun cb9 => ?_) (fun cb9 => ?_)
        · skip
          have c37 : 1 = is.toInt := zeq cb9 (by decide) rfl
          have n38 : 1 ≤ is.toInt := Int.le_trans (Int.le_refl _) (Int.le_of_eq c37)
          have n39 : is.toInt ≤ 1 := Int.le_trans (Int.le_of_eq c37.symm) (Int.le_refl _)
          refine lv_iconst (v := 0) hx hb dX12_dry_70 (by decide) ?_
          have hP : va_P g.1 vwCl (List.flatten [bMo g o a 0 hi ac2_5 tp ba en tA fl de iD iO tU fm2_35 fk fa fc2_6 ft ff fb fi]) H := hP
          have hD : va_D A (List.flatten [bMo g o a 0 hi ac2_5 tp ba en tA fl de iD iO tU fm2_35 fk fa fc2_6 ft ff fb fi]) := hD
          exact mret_z hx hb hr hlocks hS (Nat.le_of_ble_eq_true rfl) (Nat.le_of_ble_eq_true rfl) dX12_dry_71 ((0 : Int32), fm2_35, fc2_6, ac2_5, (0 : Int32)) rfl (by decide) (show (0 ≤ ac2_5.toInt ∧ ac2_5.toInt ≤ 12) ∧ (rC fc2_6) ∧ (rM fm2_35) ∧ (zX9 (0, 0, zM9 fm2_35) (zxDry x is (zM9 fm))) ∧ (zMm 0 fc fc2_6 ac.toInt ac2_5.toInt fm) ∧ (zKl fm fm2_35) from ⟨(by first | assumption | omega | decide), (by first | assumption | omega | decide), (by first | assumption | omega | decide), (zxDry_m (by omega) (by omega) hq36_1 (by first | omega | (rw [show (0 : Int32).toInt = 0 by decide]; omega) | (rw [show (1 : Int32).toInt = 1 by decide]; omega)) (Or.inl ⟨by omega, rfl⟩)), (zMm_y (by decide) hq7_2), (zKl_u (zKl_r _) hq36_1 (by omega))⟩) hP hD
        · skip
          have c40 : ¬ 1 = is.toInt := zne cb9 (by decide) rfl
          refine lv_iconst (v := 1) hx hb dX12_dry_66 (by decide) ?_
          refine lv_goto (tgt := 71) hx hb dX12_dry_67 (by decide) ?_
          have hP : va_P g.1 vwCl (List.flatten [bMo g o a 0 hi ac2_5 tp ba en tA fl de iD iO tU fm2_35 fk fa fc2_6 ft ff fb fi]) H := hP
          have hD : va_D A (List.flatten [bMo g o a 0 hi ac2_5 tp ba en tA fl de iD iO tU fm2_35 fk fa fc2_6 ft ff fb fi]) := hD
          exact mret_z hx hb hr hlocks hS (Nat.le_of_ble_eq_true rfl) (Nat.le_of_ble_eq_true rfl) dX12_dry_71 ((0 : Int32), fm2_35, fc2_6, ac2_5, (1 : Int32)) rfl (by decide) (show (0 ≤ ac2_5.toInt ∧ ac2_5.toInt ≤ 12) ∧ (rC fc2_6) ∧ (rM fm2_35) ∧ (zX9 (0, 1, zM9 fm2_35) (zxDry x is (zM9 fm))) ∧ (zMm 0 fc fc2_6 ac.toInt ac2_5.toInt fm) ∧ (zKl fm fm2_35) from ⟨(by first | assumption | omega | decide), (by first | assumption | omega | decide), (by first | assumption | omega | decide), (zxDry_m (by omega) (by omega) hq36_1 (by first | omega | (rw [show (0 : Int32).toInt = 0 by decide]; omega) | (rw [show (1 : Int32).toInt = 1 by decide]; omega)) (Or.inr ⟨by omega, rfl⟩)), (zMm_y (by decide) hq7_2), (zKl_u (zKl_r _) hq36_1 (by omega))⟩) hP hD
  · skip
    refine lv_if_ne (tgt := 13) hx hb dX12_dry_6 (by decide) (fun c41 => absurd (by decide) c41) (fun _ => ?_)
    refine lv_iconst (v := 1) hx hb dX12_dry_9 (by decide) ?_
    refine lv_goto (tgt := 14) hx hb dX12_dry_10 (by decide) ?_
    refine va_put (D := g.1) (ci := 10) (v := .int 1) (ty := .int) (C := RX12) (T := TX12) (N := 20) hx hb hts izRX12 tyX12 tyX12_ok nmX12 hown hK hP hD hS 0 rfl rfl 0 (by decide) (hts _ k825) (fun _ h9 => h9) rfl (by decide +kernel) rfl rfl (Nat.le_of_ble_eq_true rfl) dX12_dry_14 (fun H locs hP hD hS => ?_)
    have hP : va_P g.1 vwCl (List.flatten [bMo g o a 1 hi ac tp ba en tA fl de iD iO tU fm fk fa fc ft ff fb fi]) H := hP
    have hD : va_D A (List.flatten [bMo g o a 1 hi ac tp ba en tA fl de iD iO tU fm fk fa fc ft ff fb fi]) := hD
    refine lv_aload_n hx hb dX12_dry_17 rfl (lv_at hl 0 rfl) ?_
    refine va_get (D := g.1) (ci := 10) (v := .int 1) (C := RX12) (T := TX12) (N := 20) hx hb hts izRX12 hown hK hP 0 rfl rfl 0 (by decide) (hts _ k825) (fun _ h9 => h9) rfl dX12_dry_18 ?_
    refine lv_if_le (tgt := 26) hx hb dX12_dry_21 (by decide) (fun c42 => absurd c42 (by decide)) (fun _ => ?_)
    refine lv_iconst (v := 0) hx hb dX12_dry_24 (by decide) ?_
    have hP : va_P g.1 vwCl (List.flatten [bMo g o a 1 hi ac tp ba en tA fl de iD iO tU fm fk fa fc ft ff fb fi]) H := hP
    have hD : va_D A (List.flatten [bMo g o a 1 hi ac tp ba en tA fl de iD iO tU fm fk fa fc ft ff fb fi]) := hD
    exact mret_z hx hb hr hlocks hS (Nat.le_of_ble_eq_true rfl) (Nat.le_of_ble_eq_true rfl) dX12_dry_25 ((1 : Int32), fm, fc, ac, (0 : Int32)) rfl (by decide) (show (0 ≤ ac.toInt ∧ ac.toInt ≤ 12) ∧ (rC fc) ∧ (rM fm) ∧ (zX9 (1, 0, zM9 fm) (zxDry x is (zM9 fm))) ∧ (zMm 1 fc fc ac.toInt ac.toInt fm) ∧ (zKl fm fm) from ⟨(by first | assumption | omega | decide), (by first | assumption | omega | decide), (by first | assumption | omega | decide), (zxDry_m1 (by omega)), (zMm_n (by decide)), (zKl_r _)⟩) hP hD
set_option maxRecDepth 100000 in
set_option maxHeartbeats 4000000 in
theorem m_daysC (l : Launch) (g : zG) (o : Nat) (a : Nat → Nat) (th : Int32) (hi : Int32) (ac : Int32) (tp : Int32) (ba : Int32) (en : Int32) (tA : Int32) (fl : Int32) (de : Int32) (iD : Int32) (iO : Int32) (tU : Int32) (fm : Nat → Int32) (fk : Nat → Int32) (fa : Nat → Int32) (fc : Nat → Int32) (ft : Nat → Int32) (ff : Nat → Int32) (fb : Nat → Int32) (fi : Nat → Int32) (n : Int32) (L : zLw) (rfm : rM fm) (rfc : rC fc) (hac : 0 ≤ ac.toInt ∧ ac.toInt ≤ 12) (hiD : 0 ≤ iD.toInt ∧ iD.toInt ≤ 1) (hiO : 0 ≤ iO.toInt ∧ iO.toInt ≤ 1) (hrg : zRg (zV fm)) (hL : zLm L fm) : zM' g l yX12_days (Cond.code yX12_days cX12_days 2 (some .int) :: zB) ({ frames := 33, cells := 0, slots := 0, locals := 736 } : Room) [.ref o, .int n] [bMo g o a th hi ac tp ba en tA fl de iD iO tU fm fk fa fc ft ff fb fi] (fun u : Int32 × (Nat → Int32) × (Nat → Int32) × Int32 × Int32 × Int32 × Int32 × Int32 × Int32 × Int32 × Int32 × (Nat → Int32) × (Nat → Int32) × Int32 => (fun (th2 : Int32) (fm2 : Nat → Int32) (fc2 : Nat → Int32) (ac2 : Int32) (ba2 : Int32) (en2 : Int32) (at2 : Int32) (de2 : Int32) (iD2 : Int32) (iO2 : Int32) (tU2 : Int32) (ff2 : Nat → Int32) (fb2 : Nat → Int32) (q : Int32) => some (.int q)) (u.1) (u.2.1) (u.2.2.1) (u.2.2.2.1) (u.2.2.2.2.1) (u.2.2.2.2.2.1) (u.2.2.2.2.2.2.1) (u.2.2.2.2.2.2.2.1) (u.2.2.2.2.2.2.2.2.1) (u.2.2.2.2.2.2.2.2.2.1) (u.2.2.2.2.2.2.2.2.2.2.1) (u.2.2.2.2.2.2.2.2.2.2.2.1) (u.2.2.2.2.2.2.2.2.2.2.2.2.1) (u.2.2.2.2.2.2.2.2.2.2.2.2.2)) (fun u : Int32 × (Nat → Int32) × (Nat → Int32) × Int32 × Int32 × Int32 × Int32 × Int32 × Int32 × Int32 × Int32 × (Nat → Int32) × (Nat → Int32) × Int32 => (fun (th2 : Int32) (fm2 : Nat → Int32) (fc2 : Nat → Int32) (ac2 : Int32) (ba2 : Int32) (en2 : Int32) (at2 : Int32) (de2 : Int32) (iD2 : Int32) (iO2 : Int32) (tU2 : Int32) (ff2 : Nat → Int32) (fb2 : Nat → Int32) (q : Int32) => (0 ≤ iO2.toInt ∧ iO2.toInt ≤ 1) ∧ (0 ≤ iD2.toInt ∧ iD2.toInt ≤ 1) ∧ (0 ≤ ac2.toInt ∧ ac2.toInt ≤ 12) ∧ (rC fc2) ∧ (rM fm2) ∧ (zX9 (th2, q, zM9 fm2) (zxDays L n (zM9 fm))) ∧ (zMm th2 fc fc2 ac.toInt ac2.toInt fm) ∧ (zKl fm fm2)) (u.1) (u.2.1) (u.2.2.1) (u.2.2.2.1) (u.2.2.2.2.1) (u.2.2.2.2.2.1) (u.2.2.2.2.2.2.1) (u.2.2.2.2.2.2.2.1) (u.2.2.2.2.2.2.2.2.1) (u.2.2.2.2.2.2.2.2.2.1) (u.2.2.2.2.2.2.2.2.2.2.1) (u.2.2.2.2.2.2.2.2.2.2.2.1) (u.2.2.2.2.2.2.2.2.2.2.2.2.1) (u.2.2.2.2.2.2.2.2.2.2.2.2.2)) (fun u : Int32 × (Nat → Int32) × (Nat → Int32) × Int32 × Int32 × Int32 × Int32 × Int32 × Int32 × Int32 × Int32 × (Nat → Int32) × (Nat → Int32) × Int32 => (fun (th2 : Int32) (fm2 : Nat → Int32) (fc2 : Nat → Int32) (ac2 : Int32) (ba2 : Int32) (en2 : Int32) (at2 : Int32) (de2 : Int32) (iD2 : Int32) (iO2 : Int32) (tU2 : Int32) (ff2 : Nat → Int32) (fb2 : Nat → Int32) (q : Int32) => [bMo g o a th2 hi ac2 tp ba2 en2 at2 fl de2 iD2 iO2 tU2 fm2 fk fa fc2 ft ff2 fb2 fi]) (u.1) (u.2.1) (u.2.2.1) (u.2.2.2.1) (u.2.2.2.2.1) (u.2.2.2.2.2.1) (u.2.2.2.2.2.2.1) (u.2.2.2.2.2.2.2.1) (u.2.2.2.2.2.2.2.2.1) (u.2.2.2.2.2.2.2.2.2.1) (u.2.2.2.2.2.2.2.2.2.2.1) (u.2.2.2.2.2.2.2.2.2.2.2.1) (u.2.2.2.2.2.2.2.2.2.2.2.2.1) (u.2.2.2.2.2.2.2.2.2.2.2.2.2)) := by
  refine zM'.of (cc := cX12_days) (maxL := 2) (rt := (some .int)) (by decide) rfl (Nat.le_of_ble_eq_true rfl) ?_
  intro p e s m args below meth c A ls St hr hlocks hin hK hT hA hP hD hS hl
  obtain ⟨hx, hb, hml, hown, hts⟩ := id St
  have hl : lv_has ls 2 [(0, .ref o), (1, .int n)] := hl
  have hrm3 := rM3 rfm
  have hrm4 := rM4 rfm
  refine lv_aload_n hx hb dX12_days_0 rfl (lv_at hl 0 rfl) ?_
  refine lv_iload_n hx hb dX12_days_1 rfl (lv_at hl 1 rfl) ?_
  refine lv_iconst (v := 1) hx hb dX12_days_2 (by decide) ?_
  refine lv_bipush (v := 60) hx hb dX12_days_3 (by decide) ?_
  have hL1 : (1 : Int32).toInt = 1 := by decide
  have hL60 : (60 : Int32).toInt = 60 := by decide
  refine mcallS' (g := g) (As := [.int n, .int 1, .int 60]) (rest := [.ref o]) St hK hT hA hP hD hS hl.1 [] [0] rfl rfl rfl (m_isIn l g n 1 60 ) (va_cwS 3 hts (zgL (zl3 k837 k838 k839) k826) rfl rfl rfl (by decide +kernel) ⟨Nat.le_of_ble_eq_true rfl, Nat.le_of_ble_eq_true rfl⟩) rfl rfl (Nat.le_of_ble_eq_true rfl) dX12_days_5 ⟨(Nat.le_of_ble_eq_true rfl), (Nat.le_of_ble_eq_true rfl)⟩ (fun q_1 H locs hq2 hP hD hS => ?_)
  replace hq2 : (q_1 = 1 ∧ (1 : Int32).toInt ≤ n.toInt ∧ n.toInt ≤ (60 : Int32).toInt ∨ q_1 = 0 ∧ (n.toInt < (1 : Int32).toInt ∨ (60 : Int32).toInt < n.toInt)) := hq2
  have hP : va_P g.1 vwCl (List.flatten [bMo g o a th hi ac tp ba en tA fl de iD iO tU fm fk fa fc ft ff fb fi]) H := hP
  have hD : va_D A (List.flatten [bMo g o a th hi ac tp ba en tA fl de iD iO tU fm fk fa fc ft ff fb fi]) := hD
  refine W.widen (k := 0) (n := 0) (Nat.le_of_ble_eq_true rfl) (Nat.le_of_ble_eq_true rfl) ?_
  refine W.eq (g2 := F0 m 8 ls [.int q_1, .ref o]) rfl ?_
  rcases hq2 with ⟨rfl, hq2_k⟩ | ⟨rfl, hq2_k⟩
  · skip
    refine lv_if_ne (tgt := 15) hx hb dX12_days_8 (by decide) (fun _ => ?_) (fun c3 => absurd c3 (by decide))
    refine lv_iconst (v := 0) hx hb dX12_days_15 (by decide) ?_
    refine va_put (D := g.1) (ci := 10) (v := .int 0) (ty := .int) (C := RX12) (T := TX12) (N := 20) hx hb hts izRX12 tyX12 tyX12_ok nmX12 hown hK hP hD hS 0 rfl rfl 0 (by decide) (hts _ k825) (fun _ h9 => h9) rfl (by decide +kernel) rfl rfl (Nat.le_of_ble_eq_true rfl) dX12_days_16 (fun H locs hP hD hS => ?_)
    have hP : va_P g.1 vwCl (List.flatten [bMo g o a 0 hi ac tp ba en tA fl de iD iO tU fm fk fa fc ft ff fb fi]) H := hP
    have hD : va_D A (List.flatten [bMo g o a 0 hi ac tp ba en tA fl de iD iO tU fm fk fa fc ft ff fb fi]) := hD
    refine lv_aload_n hx hb dX12_days_19 rfl (lv_at hl 0 rfl) ?_
    refine va_get (D := g.1) (ci := 10) (v := .int 0) (C := RX12) (T := TX12) (N := 20) hx hb hts izRX12 hown hK hP 0 rfl rfl 0 (by decide) (hts _ k825) (fun _ h9 => h9) rfl dX12_days_20 ?_
    refine lv_if_le (tgt := 28) hx hb dX12_days_23 (by decide) (fun _ => ?_) (fun c4 => absurd (by decide) c4)
    refine lv_aload_n hx hb dX12_days_28 rfl (lv_at hl 0 rfl) ?_
    refine mcallV' (g := g) (q0 := 0) (ci := 10) (As := []) (rest := []) St hK hT hA hP hD hS hl.1 [0] [] rfl rfl rfl (m_remembers l g o a 0 hi ac tp ba en tA fl de iD iO tU fm fk fa fc ft ff fb fi rfm rfc hac) (cwV 0 hts (zgL (zl4 k1047 k1048 k1049 k839) k1046) rfl rfl rfl (by decide +kernel) ⟨Nat.le_of_ble_eq_true rfl, Nat.le_of_ble_eq_true rfl⟩) rfl rfl rfl rfl (Nat.le_of_ble_eq_true rfl) dX12_days_29 ⟨(Nat.le_of_ble_eq_true rfl), (Nat.le_of_ble_eq_true rfl)⟩ (fun u_ H locs hq7 hP hD hS => ?_)
    obtain ⟨ac2_5, fc2_6⟩ := u_
    replace hq7 : (rC fc2_6) ∧ (0 ≤ ac2_5.toInt ∧ ac2_5.toInt ≤ 12) ∧ (zRem fc fc2_6 ac.toInt ac2_5.toInt fm) := hq7
    have hP : va_P g.1 vwCl (List.flatten [bMo g o a 0 hi ac2_5 tp ba en tA fl de iD iO tU fm fk fa fc2_6 ft ff fb fi]) H := hP
    have hD : va_D A (List.flatten [bMo g o a 0 hi ac2_5 tp ba en tA fl de iD iO tU fm fk fa fc2_6 ft ff fb fi]) := hD
    refine W.widen (k := 0) (n := 0) (Nat.le_of_ble_eq_true rfl) (Nat.le_of_ble_eq_true rfl) ?_
    refine W.eq (g2 := F0 m 32 ls []) rfl ?_
    obtain ⟨rfc2_6, hq7_1, hq7_2⟩ := hq7
    refine lv_aload_n hx hb dX12_days_32 rfl (lv_at hl 0 rfl) ?_
    refine lv_iload_n hx hb dX12_days_33 rfl (lv_at hl 1 rfl) ?_
    refine lv_iconst (v := 1) hx hb dX12_days_34 (by decide) ?_
    refine mcallV' (g := g) (q0 := 0) (ci := 10) (As := [.int n, .int 1]) (rest := []) St hK hT hA hP hD hS hl.1 [0] [] rfl rfl rfl (m_goes1G l g o a 0 hi ac2_5 tp ba en tA fl de iD iO tU fm fk fa fc2_6 ft ff fb fi n L rfm hiD hiO (by first | assumption | omega | decide | exact Or.inl (by decide) | exact Or.inr (by decide)) hrg hL) (cwV 2 hts (zgL (zl4 k1057 k1058 k1059 k839) k1028) rfl rfl rfl (by decide +kernel) ⟨Nat.le_of_ble_eq_true rfl, Nat.le_of_ble_eq_true rfl⟩) rfl rfl rfl rfl (Nat.le_of_ble_eq_true rfl) dX12_days_35 ⟨(Nat.le_of_ble_eq_true rfl), (Nat.le_of_ble_eq_true rfl)⟩ (fun u_ H locs hq19 hP hD hS => ?_)
    obtain ⟨ba2_8, en2_9, at2_10, de2_11, iD2_12, iO2_13, tU2_14, ff2_15, fm2_16, fb2_17, q_18⟩ := u_
    replace hq19 : (rM fm2_16) ∧ (0 ≤ iO2_13.toInt ∧ iO2_13.toInt ≤ 1) ∧ (0 ≤ iD2_12.toInt ∧ iD2_12.toInt ≤ 1) ∧ (zNR ((fm2_16 5, fm2_16 8, fm2_16 10, zV fm2_16), q_18) (zNds L (fm 3).toInt.toNat (fm 4).toInt.toNat (fm 7) 1 n.toInt.toNat (fm 5, fm 8, fm 10, zV fm))) ∧ (zGk fm fm2_16) := hq19
    have hP : va_P g.1 vwCl (List.flatten [bMo g o a 0 hi ac2_5 tp ba2_8 en2_9 at2_10 fl de2_11 iD2_12 iO2_13 tU2_14 fm2_16 fk fa fc2_6 ft ff2_15 fb2_17 fi]) H := hP
    have hD : va_D A (List.flatten [bMo g o a 0 hi ac2_5 tp ba2_8 en2_9 at2_10 fl de2_11 iD2_12 iO2_13 tU2_14 fm2_16 fk fa fc2_6 ft ff2_15 fb2_17 fi]) := hD
    refine W.widen (k := 0) (n := 0) (Nat.le_of_ble_eq_true rfl) (Nat.le_of_ble_eq_true rfl) ?_
    refine W.eq (g2 := F0 m 38 ls [.int q_18]) rfl ?_
    obtain ⟨rfm2_16, hq19_1, hq19_2, hq19_3, hq19_4⟩ := hq19
    have hP : va_P g.1 vwCl (List.flatten [bMo g o a 0 hi ac2_5 tp ba2_8 en2_9 at2_10 fl de2_11 iD2_12 iO2_13 tU2_14 fm2_16 fk fa fc2_6 ft ff2_15 fb2_17 fi]) H := hP
    have hD : va_D A (List.flatten [bMo g o a 0 hi ac2_5 tp ba2_8 en2_9 at2_10 fl de2_11 iD2_12 iO2_13 tU2_14 fm2_16 fk fa fc2_6 ft ff2_15 fb2_17 fi]) := hD
    exact mret_i hx hb hr hlocks hS (Nat.le_of_ble_eq_true rfl) (Nat.le_of_ble_eq_true rfl) dX12_days_38 ((0 : Int32), fm2_16, fc2_6, ac2_5, ba2_8, en2_9, at2_10, de2_11, iD2_12, iO2_13, tU2_14, ff2_15, fb2_17, q_18) rfl (show (0 ≤ iO2_13.toInt ∧ iO2_13.toInt ≤ 1) ∧ (0 ≤ iD2_12.toInt ∧ iD2_12.toInt ≤ 1) ∧ (0 ≤ ac2_5.toInt ∧ ac2_5.toInt ≤ 12) ∧ (rC fc2_6) ∧ (rM fm2_16) ∧ (zX9 (0, q_18, zM9 fm2_16) (zxDays L n (zM9 fm))) ∧ (zMm 0 fc fc2_6 ac.toInt ac2_5.toInt fm) ∧ (zKl fm fm2_16) from ⟨(by first | assumption | omega | decide), (by first | assumption | omega | decide), (by first | assumption | omega | decide), (by first | assumption | omega | decide), (by first | assumption | omega | decide), (zxDays_m (by omega) hq19_3 hq19_4), (zMm_y (by decide) hq7_2), (zKl_g hq19_4)⟩) hP hD
  · skip
    refine lv_if_ne (tgt := 15) hx hb dX12_days_8 (by decide) (fun c20 => absurd (by decide) c20) (fun _ => ?_)
    refine lv_iconst (v := 1) hx hb dX12_days_11 (by decide) ?_
    refine lv_goto (tgt := 16) hx hb dX12_days_12 (by decide) ?_
    refine va_put (D := g.1) (ci := 10) (v := .int 1) (ty := .int) (C := RX12) (T := TX12) (N := 20) hx hb hts izRX12 tyX12 tyX12_ok nmX12 hown hK hP hD hS 0 rfl rfl 0 (by decide) (hts _ k825) (fun _ h9 => h9) rfl (by decide +kernel) rfl rfl (Nat.le_of_ble_eq_true rfl) dX12_days_16 (fun H locs hP hD hS => ?_)
    have hP : va_P g.1 vwCl (List.flatten [bMo g o a 1 hi ac tp ba en tA fl de iD iO tU fm fk fa fc ft ff fb fi]) H := hP
    have hD : va_D A (List.flatten [bMo g o a 1 hi ac tp ba en tA fl de iD iO tU fm fk fa fc ft ff fb fi]) := hD
    refine lv_aload_n hx hb dX12_days_19 rfl (lv_at hl 0 rfl) ?_
    refine va_get (D := g.1) (ci := 10) (v := .int 1) (C := RX12) (T := TX12) (N := 20) hx hb hts izRX12 hown hK hP 0 rfl rfl 0 (by decide) (hts _ k825) (fun _ h9 => h9) rfl dX12_days_20 ?_
    refine lv_if_le (tgt := 28) hx hb dX12_days_23 (by decide) (fun c21 => absurd c21 (by decide)) (fun _ => ?_)
    refine lv_iconst (v := 0) hx hb dX12_days_26 (by decide) ?_
    have hP : va_P g.1 vwCl (List.flatten [bMo g o a 1 hi ac tp ba en tA fl de iD iO tU fm fk fa fc ft ff fb fi]) H := hP
    have hD : va_D A (List.flatten [bMo g o a 1 hi ac tp ba en tA fl de iD iO tU fm fk fa fc ft ff fb fi]) := hD
    exact mret_i hx hb hr hlocks hS (Nat.le_of_ble_eq_true rfl) (Nat.le_of_ble_eq_true rfl) dX12_days_27 ((1 : Int32), fm, fc, ac, ba, en, tA, de, iD, iO, tU, ff, fb, (0 : Int32)) rfl (show (0 ≤ iO.toInt ∧ iO.toInt ≤ 1) ∧ (0 ≤ iD.toInt ∧ iD.toInt ≤ 1) ∧ (0 ≤ ac.toInt ∧ ac.toInt ≤ 12) ∧ (rC fc) ∧ (rM fm) ∧ (zX9 (1, 0, zM9 fm) (zxDays L n (zM9 fm))) ∧ (zMm 1 fc fc ac.toInt ac.toInt fm) ∧ (zKl fm fm) from ⟨(by first | assumption | omega | decide), (by first | assumption | omega | decide), (by first | assumption | omega | decide), (by first | assumption | omega | decide), (by first | assumption | omega | decide), (zxDays_m1 (by omega)), (zMm_n (by decide)), (zKl_r _)⟩) hP hD
set_option maxRecDepth 100000 in
set_option maxHeartbeats 4000000 in
theorem m_seedC (l : Launch) (g : zG) (o : Nat) (a : Nat → Nat) (th : Int32) (hi : Int32) (ac : Int32) (tp : Int32) (ba : Int32) (en : Int32) (tA : Int32) (fl : Int32) (de : Int32) (iD : Int32) (iO : Int32) (tU : Int32) (fm : Nat → Int32) (fk : Nat → Int32) (fa : Nat → Int32) (fc : Nat → Int32) (ft : Nat → Int32) (ff : Nat → Int32) (fb : Nat → Int32) (fi : Nat → Int32) (n : Int32) (rfm : rM fm) : zM' g l yX12_seed (Cond.code yX12_seed cX12_seed 3 (some .int) :: zB) ({ frames := 0, cells := 0, slots := 0, locals := 0 } : Room) [.ref o, .int n] [bMo g o a th hi ac tp ba en tA fl de iD iO tU fm fk fa fc ft ff fb fi] (fun u : Int32 × (Nat → Int32) => (fun (th2 : Int32) (fm2 : Nat → Int32) => some (.int (fm 10))) (u.1) (u.2)) (fun u : Int32 × (Nat → Int32) => (fun (th2 : Int32) (fm2 : Nat → Int32) => (rM fm2) ∧ (fm2 = upd fm 10 n)) (u.1) (u.2)) (fun u : Int32 × (Nat → Int32) => (fun (th2 : Int32) (fm2 : Nat → Int32) => [bMo g o a th2 hi ac tp ba en tA fl de iD iO tU fm2 fk fa fc ft ff fb fi]) (u.1) (u.2)) := by
  refine zM'.of (cc := cX12_seed) (maxL := 3) (rt := (some .int)) (by decide) rfl (Nat.le_of_ble_eq_true rfl) ?_
  intro p e s m args below meth c A ls St hr hlocks hin hK hT hA hP hD hS hl
  obtain ⟨hx, hb, hml, hown, hts⟩ := id St
  have hl : lv_has ls 3 [(0, .ref o), (1, .int n)] := hl
  have hrm3 := rM3 rfm
  have hrm4 := rM4 rfm
  refine lv_aload_n hx hb dX12_seed_0 rfl (lv_at hl 0 rfl) ?_
  refine lv_iconst (v := 0) hx hb dX12_seed_1 (by decide) ?_
  refine va_put (D := g.1) (ci := 10) (v := .int 0) (ty := .int) (C := RX12) (T := TX12) (N := 20) hx hb hts izRX12 tyX12 tyX12_ok nmX12 hown hK hP hD hS 0 rfl rfl 0 (by decide) (hts _ k825) (fun _ h9 => h9) rfl (by decide +kernel) rfl rfl (Nat.le_of_ble_eq_true rfl) dX12_seed_2 (fun H locs hP hD hS => ?_)
  have hP : va_P g.1 vwCl (List.flatten [bMo g o a 0 hi ac tp ba en tA fl de iD iO tU fm fk fa fc ft ff fb fi]) H := hP
  have hD : va_D A (List.flatten [bMo g o a 0 hi ac tp ba en tA fl de iD iO tU fm fk fa fc ft ff fb fi]) := hD
  refine lv_aload_n hx hb dX12_seed_5 rfl (lv_at hl 0 rfl) ?_
  refine va_get (D := g.1) (ci := 10) (v := .ref (a 0)) (C := RX12) (T := TX12) (N := 20) hx hb hts izRX12 hown hK hP 0 rfl rfl 1 (by decide) (hts _ k815) (fun _ h9 => h9) rfl dX12_seed_6 ?_
  refine lv_bipush (v := 10) hx hb dX12_seed_9 (by decide) ?_
  refine va_iald hx hb hK hP 1 0 rfl rfl (zin rfl) dX12_seed_11 ?_
  refine ztop (r := (fm 10)) rfl ?_
  refine lv_istore_n (lv' := [(2, .int (fm 10)), (0, .ref o), (1, .int n)]) hx hb dX12_seed_12 rfl hl (by decide) rfl (fun ls hl => ?_)
  refine lv_aload_n hx hb dX12_seed_13 rfl (lv_at hl 1 rfl) ?_
  refine va_get (D := g.1) (ci := 10) (v := .ref (a 0)) (C := RX12) (T := TX12) (N := 20) hx hb hts izRX12 hown hK hP 0 rfl rfl 1 (by decide) (hts _ k815) (fun _ h9 => h9) rfl dX12_seed_14 ?_
  refine lv_bipush (v := 10) hx hb dX12_seed_17 (by decide) ?_
  refine lv_iload_n hx hb dX12_seed_19 rfl (lv_at hl 2 rfl) ?_
  refine va_iast hx hb hK hP hD hS 1 0 rfl rfl (zin rfl) dX12_seed_20 (fun H locs hP hD hS => ?_)
  obtain ⟨fm_1, rfm_1, efm_1, hP, hD⟩ : ∃ fm_1 : Nat → Int32, rM fm_1 ∧ fm_1 = upd fm 10 n ∧ va_P g.1 vwCl (List.flatten [bMo g o a 0 hi ac tp ba en tA fl de iD iO tU fm_1 fk fa fc ft ff fb fi]) H ∧ va_D A (List.flatten [bMo g o a 0 hi ac tp ba en tA fl de iD iO tU fm_1 fk fa fc ft ff fb fi]) := ⟨upd fm 10 n, (rM_stL rfm (by decide)), rfl, hP, hD⟩
  refine lv_iload_n hx hb dX12_seed_21 rfl (lv_at hl 0 rfl) ?_
  have hP : va_P g.1 vwCl (List.flatten [bMo g o a 0 hi ac tp ba en tA fl de iD iO tU fm_1 fk fa fc ft ff fb fi]) H := hP
  have hD : va_D A (List.flatten [bMo g o a 0 hi ac tp ba en tA fl de iD iO tU fm_1 fk fa fc ft ff fb fi]) := hD
  exact mret_i hx hb hr hlocks hS (Nat.le_of_ble_eq_true rfl) (Nat.le_of_ble_eq_true rfl) dX12_seed_22 ((0 : Int32), fm_1) rfl (show (rM fm_1) ∧ (fm_1 = upd fm 10 n) from ⟨(by assumption), (by rw [efm_1])⟩) hP hD
