set_option maxRecDepth 100000 in
set_option maxHeartbeats 4000000 in
theorem c_passDay (l : Launch) (g : zG) (o : Nat) (a : Nat → Nat) (pe : Int32) (wo : Int32) (tx : Int32) (ch : Int32) (jo : Int32) (tr : Int32) (dy : Int32) (sd : Int32) (f : Nat → Nat → Int32) (lo : Nat) (lc : Nat) (lz : Int32) (ll : Int32) (lm : Int32) (lg : Int32) (ld : Int32) (fc : Nat → Int32) (go : Nat) (gr : Nat) (gz : Int32) (gn : Int32) (fr : Nat → Int32) (tl : Int32) (b_pe : 0 ≤ pe.toInt ∧ pe.toInt ≤ 8) (b_wo : 0 ≤ wo.toInt ∧ wo.toInt ≤ 6) (rf : zZ4 f) (b_lz : 0 ≤ lz.toInt ∧ lz.toInt ≤ 400) (b_gz : 0 ≤ gz.toInt ∧ gz.toInt ≤ 60) (b_gn : 0 ≤ gn.toInt ∧ gn.toInt ≤ 59) : zM' g l yX9_passDay (Cond.code yX9_passDay cX9_passDay 5 (some .int) :: zB) ({ frames := 5, cells := 0, slots := 0, locals := 104 } : Room) [.ref o, .ref lo, .int tl, .ref go] [bTown g o a pe wo tx ch jo tr dy sd f, bLaw g lo lc lz ll lm lg ld fc, bLog g go gr gz gn fr] (fun u : Int32 × Int32 × Int32 × (Nat → Nat → Int32) × Int32 × Int32 × Int32 × Int32 × Int32 × (Nat → Int32) × Int32 => (fun (ch2 : Int32) (dy2 : Int32) (sd2 : Int32) (f2 : Nat → Nat → Int32) (lm2 : Int32) (lg2 : Int32) (ld2 : Int32) (gz2 : Int32) (gn2 : Int32) (fr2 : Nat → Int32) (q : Int32) => some (.int q)) (u.1) (u.2.1) (u.2.2.1) (u.2.2.2.1) (u.2.2.2.2.1) (u.2.2.2.2.2.1) (u.2.2.2.2.2.2.1) (u.2.2.2.2.2.2.2.1) (u.2.2.2.2.2.2.2.2.1) (u.2.2.2.2.2.2.2.2.2.1) (u.2.2.2.2.2.2.2.2.2.2)) (fun u : Int32 × Int32 × Int32 × (Nat → Nat → Int32) × Int32 × Int32 × Int32 × Int32 × Int32 × (Nat → Int32) × Int32 => (fun (ch2 : Int32) (dy2 : Int32) (sd2 : Int32) (f2 : Nat → Nat → Int32) (lm2 : Int32) (lg2 : Int32) (ld2 : Int32) (gz2 : Int32) (gn2 : Int32) (fr2 : Nat → Int32) (q : Int32) => (zZ4 f2) ∧ (0 ≤ gz2.toInt ∧ gz2.toInt ≤ 60) ∧ (0 ≤ gn2.toInt ∧ gn2.toInt ≤ 59)) (u.1) (u.2.1) (u.2.2.1) (u.2.2.2.1) (u.2.2.2.2.1) (u.2.2.2.2.2.1) (u.2.2.2.2.2.2.1) (u.2.2.2.2.2.2.2.1) (u.2.2.2.2.2.2.2.2.1) (u.2.2.2.2.2.2.2.2.2.1) (u.2.2.2.2.2.2.2.2.2.2)) (fun u : Int32 × Int32 × Int32 × (Nat → Nat → Int32) × Int32 × Int32 × Int32 × Int32 × Int32 × (Nat → Int32) × Int32 => (fun (ch2 : Int32) (dy2 : Int32) (sd2 : Int32) (f2 : Nat → Nat → Int32) (lm2 : Int32) (lg2 : Int32) (ld2 : Int32) (gz2 : Int32) (gn2 : Int32) (fr2 : Nat → Int32) (q : Int32) => [bTown g o a pe wo tx ch2 jo tr dy2 sd2 f2, bLaw g lo lc lz ll lm2 lg2 ld2 fc, bLog g go gr gz2 gn2 fr2]) (u.1) (u.2.1) (u.2.2.1) (u.2.2.2.1) (u.2.2.2.2.1) (u.2.2.2.2.2.1) (u.2.2.2.2.2.2.1) (u.2.2.2.2.2.2.2.1) (u.2.2.2.2.2.2.2.2.1) (u.2.2.2.2.2.2.2.2.2.1) (u.2.2.2.2.2.2.2.2.2.2)) := by
  refine zM'.of (cc := cX9_passDay) (maxL := 5) (rt := (some .int)) (by decide) rfl (Nat.le_of_ble_eq_true rfl) ?_
  intro p e s m args below meth c A ls St hr hlocks hin hK hT hA hP hD hS hl
  obtain ⟨hx, hb, hml, hown, hts⟩ := id St
  have hl : lv_has ls 5 [(0, .ref o), (1, .ref lo), (2, .int tl), (3, .ref go)] := hl
  refine lv_aload_n hx hb dX9_passDay_0 rfl (lv_at hl 0 rfl) ?_
  refine lv_aload_n hx hb dX9_passDay_1 rfl (lv_at hl 1 rfl) ?_
  refine mcallV' (g := g) (q0 := 0) (ci := 7) (As := [.ref lo]) (rest := []) St hK hT hA hP hD hS hl.1 [0, 1] [2] rfl rfl rfl (c_showTo l g o a pe wo tx ch jo tr dy sd f lo lc lz ll lm lg ld fc b_pe b_wo rf) (cwV 1 hts (zgL (zl4 k142 k143 k144 k24) k86) rfl rfl rfl (by decide +kernel) ⟨Nat.le_of_ble_eq_true rfl, Nat.le_of_ble_eq_true rfl⟩) rfl rfl rfl rfl (Nat.le_of_ble_eq_true rfl) dX9_passDay_2 ⟨(Nat.le_of_ble_eq_true rfl), (Nat.le_of_ble_eq_true rfl)⟩ (fun u_ H locs hq4 hP hD hS => ?_)
  obtain ⟨lm2_1, lg2_2, ld2_3⟩ := u_
  have hP : va_P g.1 vwCl (List.flatten [bLog g go gr gz gn fr, bTown g o a pe wo tx ch jo tr dy sd f, bLaw g lo lc lz ll lm2_1 lg2_2 ld2_3 fc]) H := hP
  have hD : va_D A (List.flatten [bLog g go gr gz gn fr, bTown g o a pe wo tx ch jo tr dy sd f, bLaw g lo lc lz ll lm2_1 lg2_2 ld2_3 fc]) := hD
  refine W.widen (k := 0) (n := 0) (Nat.le_of_ble_eq_true rfl) (Nat.le_of_ble_eq_true rfl) ?_
  refine W.eq (g2 := F0 m 5 ls []) rfl ?_
  refine lv_aload_n hx hb dX9_passDay_5 rfl (lv_at hl 0 rfl) ?_
  refine lv_aload_n hx hb dX9_passDay_6 rfl (lv_at hl 1 rfl) ?_
  refine mcallV' (g := g) (q0 := 0) (ci := 7) (As := [.ref lo]) (rest := []) St hK hT hA hP hD hS hl.1 [1, 2] [0] rfl rfl rfl (c_turnBeliefs l g o a pe wo tx ch jo tr dy sd f lo lc lz ll lm2_1 lg2_2 ld2_3 fc b_pe b_wo rf b_lz) (cwV 1 hts (zgL (zl4 k145 k146 k147 k24) k114) rfl rfl rfl (by decide +kernel) ⟨Nat.le_of_ble_eq_true rfl, Nat.le_of_ble_eq_true rfl⟩) rfl rfl rfl rfl (Nat.le_of_ble_eq_true rfl) dX9_passDay_7 ⟨(Nat.le_of_ble_eq_true rfl), (Nat.le_of_ble_eq_true rfl)⟩ (fun f2_5 H locs hq6 hP hD hS => ?_)
  replace hq6 : (zZ4 f2_5) := hq6
  have hP : va_P g.1 vwCl (List.flatten [bLog g go gr gz gn fr, bTown g o a pe wo tx ch jo tr dy sd f2_5, bLaw g lo lc lz ll lm2_1 lg2_2 ld2_3 fc]) H := hP
  have hD : va_D A (List.flatten [bLog g go gr gz gn fr, bTown g o a pe wo tx ch jo tr dy sd f2_5, bLaw g lo lc lz ll lm2_1 lg2_2 ld2_3 fc]) := hD
  refine W.widen (k := 0) (n := 0) (Nat.le_of_ble_eq_true rfl) (Nat.le_of_ble_eq_true rfl) ?_
  refine W.eq (g2 := F0 m 10 ls []) rfl ?_
  have rf2_5 := hq6; clear hq6
  refine lv_aload_n hx hb dX9_passDay_10 rfl (lv_at hl 0 rfl) ?_
  refine lv_aload_n hx hb dX9_passDay_11 rfl (lv_at hl 3 rfl) ?_
  refine mcallV' (g := g) (q0 := 0) (ci := 7) (As := [.ref go]) (rest := []) St hK hT hA hP hD hS hl.1 [1, 0] [2] rfl rfl rfl (c_keepWorks l g o a pe wo tx ch jo tr dy sd f2_5 go gr gz gn fr b_pe b_wo rf2_5 b_gz b_gn) (cwV 1 hts (zgL (zl4 k148 k149 k150 k24) k128) rfl rfl rfl (by decide +kernel) ⟨Nat.le_of_ble_eq_true rfl, Nat.le_of_ble_eq_true rfl⟩) rfl rfl rfl rfl (Nat.le_of_ble_eq_true rfl) dX9_passDay_12 ⟨(Nat.le_of_ble_eq_true rfl), (Nat.le_of_ble_eq_true rfl)⟩ (fun u_ H locs hq13 hP hD hS => ?_)
  obtain ⟨ch2_7, f2_8, gz2_9, gn2_10, fr2_11, q_12⟩ := u_
  replace hq13 : (zZ4 f2_8) ∧ (0 ≤ gz2_9.toInt ∧ gz2_9.toInt ≤ 60) ∧ (0 ≤ gn2_10.toInt ∧ gn2_10.toInt ≤ 59) := hq13
  have hP : va_P g.1 vwCl (List.flatten [bLaw g lo lc lz ll lm2_1 lg2_2 ld2_3 fc, bTown g o a pe wo tx ch2_7 jo tr dy sd f2_8, bLog g go gr gz2_9 gn2_10 fr2_11]) H := hP
  have hD : va_D A (List.flatten [bLaw g lo lc lz ll lm2_1 lg2_2 ld2_3 fc, bTown g o a pe wo tx ch2_7 jo tr dy sd f2_8, bLog g go gr gz2_9 gn2_10 fr2_11]) := hD
  refine W.widen (k := 0) (n := 0) (Nat.le_of_ble_eq_true rfl) (Nat.le_of_ble_eq_true rfl) ?_
  refine W.eq (g2 := F0 m 15 ls [.int q_12]) rfl ?_
  obtain ⟨rf2_8, hq13_1, hq13_2⟩ := hq13
  refine lv_istore (lv' := [(4, .int q_12), (0, .ref o), (1, .ref lo), (2, .int tl), (3, .ref go)]) hx hb dX9_passDay_15 hl (by decide) rfl (fun ls hl => ?_)
  refine lv_aload_n hx hb dX9_passDay_17 rfl (lv_at hl 1 rfl) ?_
  refine lv_iload_n hx hb dX9_passDay_18 rfl (lv_at hl 3 rfl) ?_
  refine lv_aload_n hx hb dX9_passDay_19 rfl (lv_at hl 4 rfl) ?_
  refine mcallV' (g := g) (q0 := 0) (ci := 7) (As := [.int tl, .ref go]) (rest := []) St hK hT hA hP hD hS hl.1 [1, 2] [0] rfl rfl rfl (c_comeBack l g o a pe wo tx ch2_7 jo tr dy sd f2_8 go gr gz2_9 gn2_10 fr2_11 tl b_pe b_wo rf2_8 hq13_1 hq13_2) (cwV 2 hts (zgL (zl4 k151 k152 k153 k24) k141) rfl rfl rfl (by decide +kernel) ⟨Nat.le_of_ble_eq_true rfl, Nat.le_of_ble_eq_true rfl⟩) rfl rfl rfl rfl (Nat.le_of_ble_eq_true rfl) dX9_passDay_20 ⟨(Nat.le_of_ble_eq_true rfl), (Nat.le_of_ble_eq_true rfl)⟩ (fun u_ H locs hq19 hP hD hS => ?_)
  obtain ⟨sd2_14, f2_15, gz2_16, gn2_17, fr2_18⟩ := u_
  replace hq19 : (zZ4 f2_15) ∧ (0 ≤ gz2_16.toInt ∧ gz2_16.toInt ≤ 60) ∧ (0 ≤ gn2_17.toInt ∧ gn2_17.toInt ≤ 59) := hq19
  have hP : va_P g.1 vwCl (List.flatten [bLaw g lo lc lz ll lm2_1 lg2_2 ld2_3 fc, bTown g o a pe wo tx ch2_7 jo tr dy sd2_14 f2_15, bLog g go gr gz2_16 gn2_17 fr2_18]) H := hP
  have hD : va_D A (List.flatten [bLaw g lo lc lz ll lm2_1 lg2_2 ld2_3 fc, bTown g o a pe wo tx ch2_7 jo tr dy sd2_14 f2_15, bLog g go gr gz2_16 gn2_17 fr2_18]) := hD
  refine W.widen (k := 0) (n := 0) (Nat.le_of_ble_eq_true rfl) (Nat.le_of_ble_eq_true rfl) ?_
  refine W.eq (g2 := F0 m 23 ls []) rfl ?_
  obtain ⟨rf2_15, hq19_1, hq19_2⟩ := hq19
  refine lv_aload_n hx hb dX9_passDay_23 rfl (lv_at hl 1 rfl) ?_
  refine lv_sipush (v := 9999) hx hb dX9_passDay_24 (by decide) ?_
  refine lv_aload_n hx hb dX9_passDay_27 rfl (lv_at hl 1 rfl) ?_
  refine va_get (D := g.1) (ci := 7) (v := .int dy) (C := RX9) (T := TX9) (N := 19) hx hb hts izRX9 hown hK hP 2 rfl rfl 6 (by decide) (hts _ k34) (fun _ h9 => h9) rfl dX9_passDay_28 ?_
  refine lv_iconst (v := 1) hx hb dX9_passDay_31 (by decide) ?_
  refine lv_iadd hx hb dX9_passDay_32 ?_
  refine zg (fun x_20 => ?_)
  refine va_mmin hx hb (by rw [hml]; exact hl.1.symm) hown (hts _ k40) (hts _ k41) (hts _ k42) (hts _ k43) (Nat.le_of_ble_eq_true rfl) (Nat.le_of_ble_eq_true rfl) (Nat.le_of_ble_eq_true rfl) (Nat.le_of_ble_eq_true rfl) dX9_passDay_33 ?_
  refine zgmn (i := 9999) (j := x_20.toInt) (by decide) rfl (fun x_21 hx_21 => ?_)
  refine va_put (D := g.1) (ci := 7) (v := .int x_21) (ty := .int) (C := RX9) (T := TX9) (N := 19) hx hb hts izRX9 tyX9 tyX9_ok nmX9 hown hK hP hD hS 2 rfl rfl 6 (by decide) (hts _ k34) (fun _ h9 => h9) rfl (by decide +kernel) rfl rfl (Nat.le_of_ble_eq_true rfl) dX9_passDay_36 (fun H locs hP hD hS => ?_)
  have hP : va_P g.1 vwCl (List.flatten [bLaw g lo lc lz ll lm2_1 lg2_2 ld2_3 fc, bTown g o a pe wo tx ch2_7 jo tr x_21 sd2_14 f2_15, bLog g go gr gz2_16 gn2_17 fr2_18]) H := hP
  have hD : va_D A (List.flatten [bLaw g lo lc lz ll lm2_1 lg2_2 ld2_3 fc, bTown g o a pe wo tx ch2_7 jo tr x_21 sd2_14 f2_15, bLog g go gr gz2_16 gn2_17 fr2_18]) := hD
  refine lv_iload hx hb dX9_passDay_39 (lv_at hl 0 rfl) ?_
  have hP : va_P g.1 vwCl (List.flatten [bLaw g lo lc lz ll lm2_1 lg2_2 ld2_3 fc, bTown g o a pe wo tx ch2_7 jo tr x_21 sd2_14 f2_15, bLog g go gr gz2_16 gn2_17 fr2_18]) H := hP
  have hD : va_D A (List.flatten [bLaw g lo lc lz ll lm2_1 lg2_2 ld2_3 fc, bTown g o a pe wo tx ch2_7 jo tr x_21 sd2_14 f2_15, bLog g go gr gz2_16 gn2_17 fr2_18]) := hD
  obtain ⟨hP, hD⟩ := zord (g := g) (Bs' := [bTown g o a pe wo tx ch2_7 jo tr x_21 sd2_14 f2_15, bLaw g lo lc lz ll lm2_1 lg2_2 ld2_3 fc, bLog g go gr gz2_16 gn2_17 fr2_18]) [1, 0, 2] rfl rfl hP hD
  exact mret_i hx hb hr hlocks hS (Nat.le_of_ble_eq_true rfl) (Nat.le_of_ble_eq_true rfl) dX9_passDay_41 (ch2_7, x_21, sd2_14, f2_15, lm2_1, lg2_2, ld2_3, gz2_16, gn2_17, fr2_18, q_12) rfl (show (zZ4 f2_15) ∧ (0 ≤ gz2_16.toInt ∧ gz2_16.toInt ≤ 60) ∧ (0 ≤ gn2_17.toInt ∧ gn2_17.toInt ≤ 59) from ⟨rf2_15, hq19_1, hq19_2⟩) hP hD
