set_option maxRecDepth 100000 in
set_option maxHeartbeats 4000000 in
theorem c_passDay (l : Launch) (g : zG) (o : Nat) (a : Nat → Nat) (pe : Int32) (wo : Int32) (tx : Int32) (ch : Int32) (jo : Int32) (tr : Int32) (dy : Int32) (sd : Int32) (f : Nat → Nat → Int32) (lo : Nat) (lc : Nat) (lz : Int32) (ll : Int32) (lm : Int32) (lg : Int32) (ld : Int32) (fc : Nat → Int32) (go : Nat) (gr : Nat) (gz : Int32) (gn : Int32) (fr : Nat → Int32) (tl : Int32) (b_pe : 0 ≤ pe.toInt ∧ pe.toInt ≤ 8) (b_wo : 0 ≤ wo.toInt ∧ wo.toInt ≤ 6) (rf : zZ4 f) (b_lz : 0 ≤ lz.toInt ∧ lz.toInt ≤ 400) (b_gz : 0 ≤ gz.toInt ∧ gz.toInt ≤ 60) (b_gn : 0 ≤ gn.toInt ∧ gn.toInt ≤ 59) : zM' g l yX9_passDay (Cond.code yX9_passDay cX9_passDay 5 (some .int) :: zB) ({ frames := 5, cells := 0, slots := 0, locals := 104 } : Room) [.ref o, .ref lo, .int tl, .ref go] [bTown g o a pe wo tx ch jo tr dy sd f, bLaw g lo lc lz ll lm lg ld fc, bLog g go gr gz gn fr] (fun u : Int32 × Int32 × Int32 × (Nat → Nat → Int32) × Int32 × Int32 × Int32 × Int32 × Int32 × (Nat → Int32) × Int32 => (fun (ch2 : Int32) (dy2 : Int32) (sd2 : Int32) (f2 : Nat → Nat → Int32) (lm2 : Int32) (lg2 : Int32) (ld2 : Int32) (gz2 : Int32) (gn2 : Int32) (fr2 : Nat → Int32) (q : Int32) => some (.int q)) (u.1) (u.2.1) (u.2.2.1) (u.2.2.2.1) (u.2.2.2.2.1) (u.2.2.2.2.2.1) (u.2.2.2.2.2.2.1) (u.2.2.2.2.2.2.2.1) (u.2.2.2.2.2.2.2.2.1) (u.2.2.2.2.2.2.2.2.2.1) (u.2.2.2.2.2.2.2.2.2.2)) (fun u : Int32 × Int32 × Int32 × (Nat → Nat → Int32) × Int32 × Int32 × Int32 × Int32 × Int32 × (Nat → Int32) × Int32 => (fun (ch2 : Int32) (dy2 : Int32) (sd2 : Int32) (f2 : Nat → Nat → Int32) (lm2 : Int32) (lg2 : Int32) (ld2 : Int32) (gz2 : Int32) (gn2 : Int32) (fr2 : Nat → Int32) (q : Int32) => (zZ4 f2) ∧ (0 ≤ gz2.toInt ∧ gz2.toInt ≤ 60) ∧ (0 ≤ gn2.toInt ∧ gn2.toInt ≤ 59)) (u.1) (u.2.1) (u.2.2.1) (u.2.2.2.1) (u.2.2.2.2.1) (u.2.2.2.2.2.1) (u.2.2.2.2.2.2.1) (u.2.2.2.2.2.2.2.1) (u.2.2.2.2.2.2.2.2.1) (u.2.2.2.2.2.2.2.2.2.1) (u.2.2.2.2.2.2.2.2.2.2)) (fun u : Int32 × Int32 × Int32 × (Nat → Nat → Int32) × Int32 × Int32 × Int32 × Int32 × Int32 × (Nat → Int32) × Int32 => (fun (ch2 : Int32) (dy2 : Int32) (sd2 : Int32) (f2 : Nat → Nat → Int32) (lm2 : Int32) (lg2 : Int32) (ld2 : Int32) (gz2 : Int32) (gn2 : Int32) (fr2 : Nat → Int32) (q : Int32) => [bTown g o a pe wo tx ch2 jo tr dy2 sd2 f2, bLaw g lo lc lz ll lm2 lg2 ld2 fc, bLog g go gr gz2 gn2 fr2]) (u.1) (u.2.1) (u.2.2.1) (u.2.2.2.1) (u.2.2.2.2.1) (u.2.2.2.2.2.1) (u.2.2.2.2.2.2.1) (u.2.2.2.2.2.2.2.1) (u.2.2.2.2.2.2.2.2.1) (u.2.2.2.2.2.2.2.2.2.1) (u.2.2.2.2.2.2.2.2.2.2)) := by
  refine zM'.of (cc := cX9_passDay) (maxL := 5) (rt := (some .int)) (by decide) rfl (Nat.le_of_ble_eq_true rfl) ?_
  intro p e s m args below meth c A ls St hr hlocks hin hK hT hA hP hD hS hl
  obtain ⟨hx, hb, hml, hown, hts⟩ := id St
  have hl : lv_has ls 5 [(0, .ref o), (1, .ref lo), (2, .int tl), (3, .ref go)] := hl
  refine lv_aload_n hx hb dX9_passDay_0 rfl (lv_at hl 0 rfl) ?_
  refine lv_aload_n hx hb dX9_passDay_1 rfl (lv_at hl 1 rfl) ?_
  refine mcallV' (g := g) (q0 := 0) (ci := 7) (As := [.ref lo]) (rest := []) St hK hT hA hP hD hS hl.1 [0, 1] [2] rfl rfl rfl (c_showTo l g o a pe wo tx ch jo tr dy sd f lo lc lz ll lm lg ld fc b_pe b_wo rf) (cwV 1 hts (zgL (zl4 k142 k143 k144 k24) k86) rfl rfl rfl (by decide +kernel) ⟨Nat.le_of_ble_eq_true rfl, Nat.le_of_ble_eq_true rfl⟩) rfl rfl rfl rfl (Nat.le_of_ble_eq_true rfl) dX9_passDay_2 ⟨(Nat.le_of_ble_eq_true rfl), (Nat.le_of_ble_eq_true rfl)⟩ (fun u_ H locs hq4 hP hD hS => ?_)
  obtain ⟨lm2_1, lg2_2, ld2_3⟩ := u_
  have hP : va_P g.1 vwCl (List.flatten [bLog g go gr gz gn fr, bTown g o a pe wo tx ch jo tr dy sd f, bLaw g lo lc lz ll lm2_1 lg2_2 ld2_3 fc]) H := hP
  have hD : va_D A (List.flatten [bLog g go gr gz gn fr, bTown g o a pe wo tx ch jo tr dy sd f, bLaw g lo lc lz ll lm2_1 lg2_2 ld2_3 fc]) := hD
  refine W.widen (k := 0) (n := 0) (Nat.le_of_ble_eq_true rfl) (Nat.le_of_ble_eq_true rfl) ?_
  refine W.eq (g2 := F0 m 5 ls []) rfl ?_
  refine lv_aload_n hx hb dX9_passDay_5 rfl (lv_at hl 0 rfl) ?_
  refine lv_aload_n hx hb dX9_passDay_6 rfl (lv_at hl 1 rfl) ?_
  refine mcallV' (g := g) (q0 := 0) (ci := 7) (As := [.ref lo]) (rest := []) St hK hT hA hP hD hS hl.1 [1, 2] [0] rfl rfl rfl (c_turnBeliefs l g o a pe wo tx ch jo tr dy sd f lo lc lz ll lm2_1 lg2_2 ld2_3 fc b_pe b_wo rf b_lz) (cwV 1 hts (zgL (zl4 k145 k146 k147 k24) k114) rfl rfl rfl (by decide +kernel) ⟨Nat.le_of_ble_eq_true rfl, Nat.le_of_ble_eq_true rfl⟩) rfl rfl rfl rfl (Nat.le_of_ble_eq_true rfl) dX9_passDay_7 ⟨(Nat.le_of_ble_eq_true rfl), (Nat.le_of_ble_eq_true rfl)⟩ (fun f2_5 H locs hq6 hP hD hS => ?_)
  replace hq6 : (zZ4 f2_5) := hq6
  have hP : va_P g.1 vwCl (List.flatten [bLog g go gr gz gn fr, bTown g o a pe wo tx ch jo tr dy sd f2_5, bLaw g lo lc lz ll lm2_1 lg2_2 ld2_3 fc]) H := hP
  have hD : va_D A (List.flatten [bLog g go gr gz gn fr, bTown g o a pe wo tx ch jo tr dy sd f2_5, bLaw g lo lc lz ll lm2_1 lg2_2 ld2_3 fc]) := hD
  refine W.widen (k := 0) (n := 0) (Nat.le_of_ble_eq_true rfl) (Nat.le_of_ble_eq_true rfl) ?_
  refine W.eq (g2 := F0 m 10 ls []) rfl ?_
  have rf2_5 := hq6; clear hq6
  refine lv_aload_n hx hb dX9_passDay_10 rfl (lv_at hl 0 rfl) ?_
  refine lv_aload_n hx hb dX9_passDay_11 rfl (lv_at hl 3 rfl) ?_
  refine mcallV' (g := g) (q0 := 0) (ci := 7) (As := [.ref go]) (rest := []) St hK hT hA hP hD hS hl.1 [1, 0] [2] rfl rfl rfl (c_keepWorks l g o a pe wo tx ch jo tr dy sd f2_5 go gr gz gn fr b_pe b_wo rf2_5 b_gz b_gn) (cwV 1 hts (zgL (zl4 k148 k149 k150 k24) k128) rfl rfl rfl (by decide +kernel) ⟨Nat.le_of_ble_eq_true rfl, Nat.le_of_ble_eq_true rfl⟩) rfl rfl rfl rfl (Nat.le_of_ble_eq_true rfl) dX9_passDay_12 ⟨(Nat.le_of_ble_eq_true rfl), (Nat.le_of_ble_eq_true rfl)⟩ (fun u_ H locs hq13 hP hD hS => ?_)
  obtain ⟨ch2_7, f2_8, gz2_9, gn2_10, fr2_11, q_12⟩ := u_
  replace hq13 : (zZ4 f2_8) ∧ (0 ≤ gz2_9.toInt ∧ gz2_9.toInt ≤ 60) ∧ (0 ≤ gn2_10.toInt ∧ gn2_10.toInt ≤ 59) := hq13
  have hP : va_P g.1 vwCl (List.flatten [bLaw g lo lc lz ll lm2_1 lg2_2 ld2_3 fc, bTown g o a pe wo tx ch2_7 jo tr dy sd f2_8, bLog g go gr gz2_9 gn2_10 fr2_11]) H := hP
  have hD : va_D A (List.flatten [bLaw g lo lc lz ll lm2_1 lg2_2 ld2_3 fc, bTown g o a pe wo tx ch2_7 jo tr dy sd f2_8, bLog g go gr gz2_9 gn2_10 fr2_11]) := hD
  refine W.widen (k := 0) (n := 0) (Nat.le_of_ble_eq_true rfl) (Nat.le_of_ble_eq_true rfl) ?_
  refine W.eq (g2 := F0 m 15 ls [.int q_12]) rfl ?_
  obtain ⟨rf2_8, hq13_1, hq13_2⟩ := hq13
  refine lv_istore (lv' := [(4, .int q_12), (0, .ref o), (1, .ref lo), (2, .int tl), (3, .ref go)]) hx hb dX9_passDay_15 hl (by decide) rfl (fun ls hl => ?_)
  refine lv_aload_n hx hb dX9_passDay_17 rfl (lv_at hl 1 rfl) ?_
  refine lv_iload_n hx hb dX9_passDay_18 rfl (lv_at hl 3 rfl) ?_
  refine lv_aload_n hx hb dX9_passDay_19 rfl (lv_at hl 4 rfl) ?_
  refine mcallV' (g := g) (q0 := 0) (ci := 7) (As := [.int tl, .ref go]) (rest := []) St hK hT hA hP hD hS hl.1 [1, 2] [0] rfl rfl rfl (c_comeBack l g o a pe wo tx ch2_7 jo tr dy sd f2_8 go gr gz2_9 gn2_10 fr2_11 tl b_pe b_wo rf2_8 hq13_1 hq13_2) (cwV 2 hts (zgL (zl4 k151 k152 k153 k24) k141) rfl rfl rfl (by decide +kernel) ⟨Nat.le_of_ble_eq_true rfl, Nat.le_of_ble_eq_true rfl⟩) rfl rfl rfl rfl (Nat.le_of_ble_eq_true rfl) dX9_passDay_20 ⟨(Nat.le_of_ble_eq_true rfl), (Nat.le_of_ble_eq_true rfl)⟩ (fun u_ H locs hq19 hP hD hS => ?_)
  obtain ⟨sd2_14, f2_15, gz2_16, gn2_17, fr2_18⟩ := u_
  replace hq19 : (zZ4 f2_15) ∧ (0 ≤ gz2_16.toInt ∧ gz2_16.toInt ≤ 60) ∧ (0 ≤ gn2_17.toInt ∧ gn2_17.toInt ≤ 59) := hq19
  have hP : va_P g.1 vwCl (List.flatten [bLaw g lo lc lz ll lm2_1 lg2_2 ld2_3 fc, bTown g o a pe wo tx ch2_7 jo tr dy sd2_14 f2_15, bLog g go gr gz2_16 gn2_17 fr2_18]) H := hP
  have hD : va_D A (List.flatten [bLaw g lo lc lz ll lm2_1 lg2_2 ld2_3 fc, bTown g o a pe wo tx ch2_7 jo tr dy sd2_14 f2_15, bLog g go gr gz2_16 gn2_17 fr2_18]) := hD
  refine W.widen (k := 0) (n := 0) (Nat.le_of_ble_eq_true rfl) (Nat.le_of_ble_eq_true rfl) ?_
  refine W.eq (g2 := F0 m 23 ls []) rfl ?_
  obtain ⟨rf2_15, hq19_1, hq19_2⟩ := hq19
  refine lv_aload_n hx hb dX9_passDay_23 rfl (lv_at hl 1 rfl) ?_
  refine lv_sipush (v := 9999) hx hb dX9_passDay_24 (by decide) ?_
  refine lv_aload_n hx hb dX9_passDay_27 rfl (lv_at hl 1 rfl) ?_
  refine va_get (D := g.1) (ci := 7) (v := .int dy) (C := RX9) (T := TX9) (N := 19) hx hb hts izRX9 hown hK hP 2 rfl rfl 6 (by decide) (hts _ k34) (fun _ h9 => h9) rfl dX9_passDay_28 ?_
  refine lv_iconst (v := 1) hx hb dX9_passDay_31 (by decide) ?_
  refine lv_iadd hx hb dX9_passDay_32 ?_
  refine zg (fun x_20 => ?_)
  refine va_mmin hx hb (by rw [hml]; exact hl.1.symm) hown (hts _ k40) (hts _ k41) (hts _ k42) (hts _ k43) (Nat.le_of_ble_eq_true rfl) (Nat.le_of_ble_eq_true rfl) (Nat.le_of_ble_eq_true rfl) (Nat.le_of_ble_eq_true rfl) dX9_passDay_33 ?_
  refine zgmn (i := 9999) (j := x_20.toInt) (by decide) rfl (fun x_21 hx_21 => ?_)
  refine va_put (D := g.1) (ci := 7) (v := .int x_21) (ty := .int) (C := RX9) (T := TX9) (N := 19) hx hb hts izRX9 tyX9 tyX9_ok nmX9 hown hK hP hD hS 2 rfl rfl 6 (by decide) (hts _ k34) (fun _ h9 => h9) rfl (by decide +kernel) rfl rfl (Nat.le_of_ble_eq_true rfl) dX9_passDay_36 (fun H locs hP hD hS => ?_)
  have hP : va_P g.1 vwCl (List.flatten [bLaw g lo lc lz ll lm2_1 lg2_2 ld2_3 fc, bTown g o a pe wo tx ch2_7 jo tr x_21 sd2_14 f2_15, bLog g go gr gz2_16 gn2_17 fr2_18]) H := hP
  have hD : va_D A (List.flatten [bLaw g lo lc lz ll lm2_1 lg2_2 ld2_3 fc, bTown g o a pe wo tx ch2_7 jo tr x_21 sd2_14 f2_15, bLog g go gr gz2_16 gn2_17 fr2_18]) := hD
  refine lv_iload hx hb dX9_passDay_39 (lv_at hl 0 rfl) ?_
  have hP : va_P g.1 vwCl (List.flatten [bLaw g lo lc lz ll lm2_1 lg2_2 ld2_3 fc, bTown g o a pe wo tx ch2_7 jo tr x_21 sd2_14 f2_15, bLog g go gr gz2_16 gn2_17 fr2_18]) H := hP
  have hD : va_D A (List.flatten [bLaw g lo lc lz ll lm2_1 lg2_2 ld2_3 fc, bTown g o a pe wo tx ch2_7 jo tr x_21 sd2_14 f2_15, bLog g go gr gz2_16 gn2_17 fr2_18]) := hD
  obtain ⟨hP, hD⟩ := zord (g := g) (Bs' := [bTown g o a pe wo tx ch2_7 jo tr x_21 sd2_14 f2_15, bLaw g lo lc lz ll lm2_1 lg2_2 ld2_3 fc, bLog g go gr gz2_16 gn2_17 fr2_18]) [1, 0, 2] rfl rfl hP hD
  exact mret_i hx hb hr hlocks hS (Nat.le_of_ble_eq_true rfl) (Nat.le_of_ble_eq_true rfl) dX9_passDay_41 (ch2_7, x_21, sd2_14, f2_15, lm2_1, lg2_2, ld2_3, gz2_16, gn2_17, fr2_18, q_12) rfl (show (zZ4 f2_15) ∧ (0 ≤ gz2_16.toInt ∧ gz2_16.toInt ≤ 60) ∧ (0 ≤ gn2_17.toInt ∧ gn2_17.toInt ≤ 59) from ⟨rf2_15, hq19_1, hq19_2⟩) hP hD
set_option maxRecDepth 100000 in
set_option maxHeartbeats 4000000 in
theorem c_writeN (l : Launch) (g : zG) (o : Nat) (a : Nat → Nat) (pe : Int32) (wo : Int32) (tx : Int32) (ch : Int32) (jo : Int32) (tr : Int32) (dy : Int32) (sd : Int32) (f : Nat → Nat → Int32) (wh : Int32) (kn : Int32) (b_pe : 0 ≤ pe.toInt ∧ pe.toInt ≤ 8) (b_wo : 0 ≤ wo.toInt ∧ wo.toInt ≤ 6) (rf : zZ4 f) : zM' g l yX9_write (Cond.code yX9_write cX9_write 4 none :: zB) ({ frames := 0, cells := 0, slots := 0, locals := 0 } : Room) [.ref o, .null, .int wh, .int kn] [bTown g o a pe wo tx ch jo tr dy sd f] (fun _ : Unit => none) (fun _ : Unit => True) (fun _ : Unit => [bTown g o a pe wo tx ch jo tr dy sd f]) := by
  refine zM'.of (cc := cX9_write) (maxL := 4) (rt := none) (by decide) rfl (Nat.le_of_ble_eq_true rfl) ?_
  intro p e s m args below meth c A ls St hr hlocks hin hK hT hA hP hD hS hl
  obtain ⟨hx, hb, hml, hown, hts⟩ := id St
  have hl : lv_has ls 4 [(0, .ref o), (1, .null), (2, .int wh), (3, .int kn)] := hl
  refine lv_aload_nN hx hb dX9_write_0 rfl (lv_at hl 1 rfl) ?_
  refine lv_ifnullN (tgt := 18) hx hb dX9_write_1 (by decide) ?_
  have hP : va_P g.1 vwCl (List.flatten [bTown g o a pe wo tx ch jo tr dy sd f]) s.heap := hP
  have hD : va_D A (List.flatten [bTown g o a pe wo tx ch jo tr dy sd f]) := hD
  exact mret_v hx hb hr hlocks hS (Nat.le_of_ble_eq_true rfl) (Nat.le_of_ble_eq_true rfl) dX9_write_18 () rfl trivial hP hD
set_option maxRecDepth 100000 in
set_option maxHeartbeats 4000000 in
theorem c_keepWorksN (l : Launch) (g : zG) (o : Nat) (a : Nat → Nat) (pe : Int32) (wo : Int32) (tx : Int32) (ch : Int32) (jo : Int32) (tr : Int32) (dy : Int32) (sd : Int32) (f : Nat → Nat → Int32) (b_pe : 0 ≤ pe.toInt ∧ pe.toInt ≤ 8) (b_wo : 0 ≤ wo.toInt ∧ wo.toInt ≤ 6) (rf : zZ4 f) : zM' g l yX9_keepWorks (Cond.code yX9_keepWorks cX9_keepWorks 5 (some .int) :: zB) ({ frames := 2, cells := 0, slots := 0, locals := 43 } : Room) [.ref o, .null] [bTown g o a pe wo tx ch jo tr dy sd f] (fun u : Int32 × (Nat → Nat → Int32) × Int32 => (fun (ch2 : Int32) (f2 : Nat → Nat → Int32) (q : Int32) => some (.int q)) (u.1) (u.2.1) (u.2.2)) (fun u : Int32 × (Nat → Nat → Int32) × Int32 => (fun (ch2 : Int32) (f2 : Nat → Nat → Int32) (q : Int32) => (zZ4 f2)) (u.1) (u.2.1) (u.2.2)) (fun u : Int32 × (Nat → Nat → Int32) × Int32 => (fun (ch2 : Int32) (f2 : Nat → Nat → Int32) (q : Int32) => [bTown g o a pe wo tx ch2 jo tr dy sd f2]) (u.1) (u.2.1) (u.2.2)) := by
  refine zM'.of (cc := cX9_keepWorks) (maxL := 5) (rt := (some .int)) (by decide) rfl (Nat.le_of_ble_eq_true rfl) ?_
  intro p e s m args below meth c A ls St hr hlocks hin hK hT hA hP hD hS hl
  obtain ⟨hx, hb, hml, hown, hts⟩ := id St
  have hl : lv_has ls 5 [(0, .ref o), (1, .null)] := hl
  refine lv_aload_n hx hb dX9_keepWorks_0 rfl (lv_at hl 0 rfl) ?_
  refine mcallV' (g := g) (q0 := 0) (ci := 7) (As := []) (rest := []) St hK hT hA hP hD hS hl.1 [0] [] rfl rfl rfl (c_believed l g o a pe wo tx ch jo tr dy sd f b_pe b_wo rf) (cwV 0 hts (zgL (zl4 k68 k69 k70 k24) k60) rfl rfl rfl (by decide +kernel) ⟨Nat.le_of_ble_eq_true rfl, Nat.le_of_ble_eq_true rfl⟩) rfl rfl rfl rfl (Nat.le_of_ble_eq_true rfl) dX9_keepWorks_1 ⟨(Nat.le_of_ble_eq_true rfl), (Nat.le_of_ble_eq_true rfl)⟩ (fun q_1 H locs hq2 hP hD hS => ?_)
  have hP : va_P g.1 vwCl (List.flatten [bTown g o a pe wo tx ch jo tr dy sd f]) H := hP
  have hD : va_D A (List.flatten [bTown g o a pe wo tx ch jo tr dy sd f]) := hD
  refine W.widen (k := 0) (n := 0) (Nat.le_of_ble_eq_true rfl) (Nat.le_of_ble_eq_true rfl) ?_
  refine W.eq (g2 := F0 m 4 ls [.int q_1]) rfl ?_
  refine lv_istore_n (lv' := [(2, .int q_1), (0, .ref o), (1, .null)]) hx hb dX9_keepWorks_4 rfl hl (by decide) rfl (fun ls hl => ?_)
  refine lv_iconst (v := 0) hx hb dX9_keepWorks_5 (by decide) ?_
  refine lv_istore_n (lv' := [(3, .int 0), (2, .int q_1), (0, .ref o), (1, .null)]) hx hb dX9_keepWorks_6 rfl hl (by decide) rfl (fun ls hl => ?_)
  refine lv_iconst (v := 0) hx hb dX9_keepWorks_7 (by decide) ?_
  refine lv_istore (lv' := [(4, .int 0), (3, .int 0), (2, .int q_1), (0, .ref o), (1, .null)]) hx hb dX9_keepWorks_8 hl (by decide) rfl (fun ls hl => ?_)
  have hl := lv_sub (l' := [(0, .ref o), (1, .null), (2, .int q_1), (3, .int 0), (4, .int 0)]) hl [3, 4, 2, 1, 0] rfl
  have LP10_8 : ∀ (kf : Nat) (x_3 : Int32) (x_4 : Int32) (x_5 : Int32) (f_6 : Nat → Nat → Int32), (0 ≤ x_4.toInt ∧ x_4.toInt ≤ 6) → (zZ4 f_6) → ∀ (H : Heap) (locs : List Loc) (ls : Array Slot), ((7 - x_4.toInt).toNat) < kf → va_P g.1 vwCl (List.flatten [bTown g o a pe wo tx x_5 jo tr dy sd f_6]) H → va_D A (List.flatten [bTown g o a pe wo tx x_5 jo tr dy sd f_6]) → va_S A s.heap H locs → lv_has ls 5 [(0, .ref o), (1, .null), (2, .int q_1), (3, .int x_3), (4, .int x_4)] → W p l e ({ frames := 2, cells := 0, slots := 0, locals := 43 } : Room) s m args below meth c H locs (0) (0) (zF g (fun u : Int32 × (Nat → Nat → Int32) × Int32 => (fun (ch2 : Int32) (f2 : Nat → Nat → Int32) (q : Int32) => some (.int q)) (u.1) (u.2.1) (u.2.2)) (fun u : Int32 × (Nat → Nat → Int32) × Int32 => (fun (ch2 : Int32) (f2 : Nat → Nat → Int32) (q : Int32) => (zZ4 f2)) (u.1) (u.2.1) (u.2.2)) (fun u : Int32 × (Nat → Nat → Int32) × Int32 => (fun (ch2 : Int32) (f2 : Nat → Nat → Int32) (q : Int32) => [bTown g o a pe wo tx ch2 jo tr dy sd f2]) (u.1) (u.2.1) (u.2.2)) ({ frames := 2, cells := 0, slots := 0, locals := 43 } : Room) below args s A) (F0 m 10 ls []) := by
    intro kf
    induction kf with
    | zero => intro x_3 x_4 x_5 f_6 i7 rf_6 H locs ls hk; exact absurd hk (Nat.not_lt_zero _)
    | succ kf ih10_9 =>
      intro x_3 x_4 x_5 f_6 i7 rf_6 H locs ls hk10_9 hP hD hS hl
      refine lv_iload hx hb dX9_keepWorks_10 (lv_at hl 4 rfl) ?_
      refine lv_aload_n hx hb dX9_keepWorks_12 rfl (lv_at hl 0 rfl) ?_
      refine va_get (D := g.1) (ci := 7) (v := .int wo) (C := RX9) (T := TX9) (N := 19) hx hb hts izRX9 hown hK hP 0 rfl rfl 1 (by decide) (hts _ k32) (fun _ h9 => h9) rfl dX9_keepWorks_13 ?_
      refine lv_icmp_ge (tgt := 172) hx hb dX9_keepWorks_16 (by decide) (fun cb9 => ?_) (fun cb9 => ?_)
      · skip
        have c10 : wo.toInt ≤ x_4.toInt := zle cb9 rfl rfl
        refine lv_iload_n hx hb dX9_keepWorks_172 rfl (lv_at hl 3 rfl) ?_
        have hP : va_P g.1 vwCl (List.flatten [bTown g o a pe wo tx x_5 jo tr dy sd f_6]) H := hP
        have hD : va_D A (List.flatten [bTown g o a pe wo tx x_5 jo tr dy sd f_6]) := hD
        exact mret_i hx hb hr hlocks hS (Nat.le_of_ble_eq_true rfl) (Nat.le_of_ble_eq_true rfl) dX9_keepWorks_173 (x_5, f_6, x_3) rfl (show (zZ4 f_6) from rf_6) hP hD
      · skip
        have c11 : x_4.toInt < wo.toInt := zlti (Int32.not_le.mp cb9) rfl rfl
        have n12 : x_4.toInt ≤ 5 := zL1 (b := 6) c11 b_wo.2 (by decide)
        have n13 : 1 ≤ wo.toInt := zL2 (a := 0) c11 i7.1 (by decide)
        refine lv_aload_n hx hb dX9_keepWorks_19 rfl (lv_at hl 0 rfl) ?_
        refine va_get (D := g.1) (ci := 7) (v := .ref (a 9)) (C := RX9) (T := TX9) (N := 19) hx hb hts izRX9 hown hK hP 0 rfl rfl 17 (by decide) (hts _ k19) (fun _ h9 => h9) rfl dX9_keepWorks_20 ?_
        refine lv_iload hx hb dX9_keepWorks_23 (lv_at hl 4 rfl) ?_
        refine va_iald hx hb hK hP 10 0 rfl rfl (zinK (a := 0) (b := 5) i7.1 n12 (by decide)) dX9_keepWorks_25 ?_
        refine zg (fun x_14 => ?_)
        refine lv_if_ne (tgt := 89) hx hb dX9_keepWorks_26 (by decide) (fun cb9 => ?_) (fun cb9 => ?_)
        · skip
          have c15 : ¬ x_14.toInt = 0 := zne cb9 rfl (by decide)
          refine lv_aload_n hx hb dX9_keepWorks_89 rfl (lv_at hl 0 rfl) ?_
          refine va_get (D := g.1) (ci := 7) (v := .ref (a 9)) (C := RX9) (T := TX9) (N := 19) hx hb hts izRX9 hown hK hP 0 rfl rfl 17 (by decide) (hts _ k19) (fun _ h9 => h9) rfl dX9_keepWorks_90 ?_
          refine lv_iload hx hb dX9_keepWorks_93 (lv_at hl 4 rfl) ?_
          refine va_iald hx hb hK hP 10 0 rfl rfl (zinK (a := 0) (b := 5) i7.1 n12 (by decide)) dX9_keepWorks_95 ?_
          refine zg (fun x_16 => ?_)
          refine lv_iconst (v := 1) hx hb dX9_keepWorks_96 (by decide) ?_
          refine lv_icmp_ne (tgt := 133) hx hb dX9_keepWorks_97 (by decide) (fun cb9 => ?_) (fun cb9 => ?_)
          · skip
            have c17 : ¬ x_16.toInt = 1 := zne cb9 rfl (by decide)
            refine lv_aload_n hx hb dX9_keepWorks_133 rfl (lv_at hl 0 rfl) ?_
            refine va_get (D := g.1) (ci := 7) (v := .ref (a 9)) (C := RX9) (T := TX9) (N := 19) hx hb hts izRX9 hown hK hP 0 rfl rfl 17 (by decide) (hts _ k19) (fun _ h9 => h9) rfl dX9_keepWorks_134 ?_
            refine lv_iload hx hb dX9_keepWorks_137 (lv_at hl 4 rfl) ?_
            refine va_iald hx hb hK hP 10 0 rfl rfl (zinK (a := 0) (b := 5) i7.1 n12 (by decide)) dX9_keepWorks_139 ?_
            refine zg (fun x_18 => ?_)
            refine lv_iconst (v := 1) hx hb dX9_keepWorks_140 (by decide) ?_
            refine lv_icmp_ne (tgt := 166) hx hb dX9_keepWorks_141 (by decide) (fun cb9 => ?_) (fun cb9 => ?_)
            · skip
              have c19 : ¬ x_18.toInt = 1 := zne cb9 rfl (by decide)
              refine ziinc3 (n' := 1) (a' := 1) (b' := 6) (lv' := fun v9 => [(4, .int v9), (0, .ref o), (1, .null), (2, .int q_1), (3, .int x_3)]) hx hb dX9_keepWorks_166 hl (k := 4) rfl (by decide) (fun _ => rfl) (zaddK (i := x_4.toInt) (j := 1) rfl (by decide) i7.1 n12 (Int.le_refl _) (Int.le_refl _) (by decide)) (fun x_20 ls hx_20 hl => ?_)
              refine lv_goto (tgt := 10) hx hb dX9_keepWorks_169 (by decide) ?_
              have hl := lv_sub (l' := [(0, .ref o), (1, .null), (2, .int q_1), (3, .int x_3), (4, .int x_20)]) hl [1, 2, 3, 4, 0] rfl
              have hP : va_P g.1 vwCl (List.flatten [bTown g o a pe wo tx x_5 jo tr dy sd f_6]) H := hP
              have hD : va_D A (List.flatten [bTown g o a pe wo tx x_5 jo tr dy sd f_6]) := hD
              exact ih10_9 x_3 x_20 x_5 f_6 ⟨(Int.le_trans (by decide) hx_20.2.1), hx_20.2.2⟩ rf_6 H _ ls (zmK hx_20.1 (by decide) n12 (by decide) hk10_9)  hP hD hS (lv_sub hl [0, 1, 2, 3, 4] rfl)
            · skip
              have c21 : x_18.toInt = 1 := zeq cb9 rfl (by decide)
              have n22 : 1 ≤ x_18.toInt := Int.le_trans (Int.le_refl _) (Int.le_of_eq c21.symm)
              have n23 : x_18.toInt ≤ 1 := Int.le_trans (Int.le_of_eq c21) (Int.le_refl _)
              refine lv_aload_n hx hb dX9_keepWorks_144 rfl (lv_at hl 0 rfl) ?_
              refine lv_sipush (v := 9999) hx hb dX9_keepWorks_145 (by decide) ?_
              refine lv_aload_n hx hb dX9_keepWorks_148 rfl (lv_at hl 0 rfl) ?_
              refine va_get (D := g.1) (ci := 7) (v := .int x_5) (C := RX9) (T := TX9) (N := 19) hx hb hts izRX9 hown hK hP 0 rfl rfl 3 (by decide) (hts _ k4) (fun _ h9 => h9) rfl dX9_keepWorks_149 ?_
              refine lv_aload_n hx hb dX9_keepWorks_152 rfl (lv_at hl 0 rfl) ?_
              refine va_get (D := g.1) (ci := 7) (v := .ref (a 8)) (C := RX9) (T := TX9) (N := 19) hx hb hts izRX9 hown hK hP 0 rfl rfl 16 (by decide) (hts _ k18) (fun _ h9 => h9) rfl dX9_keepWorks_153 ?_
              refine lv_iload hx hb dX9_keepWorks_156 (lv_at hl 4 rfl) ?_
              refine va_iald hx hb hK hP 9 0 rfl rfl (zinK (a := 0) (b := 5) i7.1 n12 (by decide)) dX9_keepWorks_158 ?_
              refine zg (fun x_24 => ?_)
              refine lv_iadd hx hb dX9_keepWorks_159 ?_
              refine zg (fun x_25 => ?_)
              refine va_mmin hx hb (by rw [hml]; exact hl.1.symm) hown (hts _ k40) (hts _ k41) (hts _ k42) (hts _ k43) (Nat.le_of_ble_eq_true rfl) (Nat.le_of_ble_eq_true rfl) (Nat.le_of_ble_eq_true rfl) (Nat.le_of_ble_eq_true rfl) dX9_keepWorks_160 ?_
              refine zgmn (i := 9999) (j := x_25.toInt) (by decide) rfl (fun x_26 hx_26 => ?_)
              refine va_put (D := g.1) (ci := 7) (v := .int x_26) (ty := .int) (C := RX9) (T := TX9) (N := 19) hx hb hts izRX9 tyX9 tyX9_ok nmX9 hown hK hP hD hS 0 rfl rfl 3 (by decide) (hts _ k4) (fun _ h9 => h9) rfl (by decide +kernel) rfl rfl (Nat.le_of_ble_eq_true rfl) dX9_keepWorks_163 (fun H locs hP hD hS => ?_)
              have hP : va_P g.1 vwCl (List.flatten [bTown g o a pe wo tx x_26 jo tr dy sd f_6]) H := hP
              have hD : va_D A (List.flatten [bTown g o a pe wo tx x_26 jo tr dy sd f_6]) := hD
              refine ziinc3 (n' := 1) (a' := 1) (b' := 6) (lv' := fun v9 => [(4, .int v9), (0, .ref o), (1, .null), (2, .int q_1), (3, .int x_3)]) hx hb dX9_keepWorks_166 hl (k := 4) rfl (by decide) (fun _ => rfl) (zaddK (i := x_4.toInt) (j := 1) rfl (by decide) i7.1 n12 (Int.le_refl _) (Int.le_refl _) (by decide)) (fun x_27 ls hx_27 hl => ?_)
              refine lv_goto (tgt := 10) hx hb dX9_keepWorks_169 (by decide) ?_
              have hl := lv_sub (l' := [(0, .ref o), (1, .null), (2, .int q_1), (3, .int x_3), (4, .int x_27)]) hl [1, 2, 3, 4, 0] rfl
              have hP : va_P g.1 vwCl (List.flatten [bTown g o a pe wo tx x_26 jo tr dy sd f_6]) H := hP
              have hD : va_D A (List.flatten [bTown g o a pe wo tx x_26 jo tr dy sd f_6]) := hD
              exact ih10_9 x_3 x_27 x_26 f_6 ⟨(Int.le_trans (by decide) hx_27.2.1), hx_27.2.2⟩ rf_6 H _ ls (zmK hx_27.1 (by decide) n12 (by decide) hk10_9)  hP hD hS (lv_sub hl [0, 1, 2, 3, 4] rfl)
          · skip
            have c28 : x_16.toInt = 1 := zeq cb9 rfl (by decide)
            have n29 : 1 ≤ x_16.toInt := Int.le_trans (Int.le_refl _) (Int.le_of_eq c28.symm)
            have n30 : x_16.toInt ≤ 1 := Int.le_trans (Int.le_of_eq c28) (Int.le_refl _)
            refine lv_iload_n hx hb dX9_keepWorks_100 rfl (lv_at hl 2 rfl) ?_
            refine lv_aload_n hx hb dX9_keepWorks_101 rfl (lv_at hl 0 rfl) ?_
            refine va_get (D := g.1) (ci := 7) (v := .ref (a 7)) (C := RX9) (T := TX9) (N := 19) hx hb hts izRX9 hown hK hP 0 rfl rfl 15 (by decide) (hts _ k17) (fun _ h9 => h9) rfl dX9_keepWorks_102 ?_
            refine lv_iload hx hb dX9_keepWorks_105 (lv_at hl 4 rfl) ?_
            refine va_iald hx hb hK hP 8 0 rfl rfl (zinK (a := 0) (b := 5) i7.1 n12 (by decide)) dX9_keepWorks_107 ?_
            refine zg (fun x_31 => ?_)
            refine lv_icmp_ge (tgt := 133) hx hb dX9_keepWorks_108 (by decide) (fun cb9 => ?_) (fun cb9 => ?_)
            · skip
              have c32 : x_31.toInt ≤ q_1.toInt := zle cb9 rfl rfl
              refine lv_aload_n hx hb dX9_keepWorks_133 rfl (lv_at hl 0 rfl) ?_
              refine va_get (D := g.1) (ci := 7) (v := .ref (a 9)) (C := RX9) (T := TX9) (N := 19) hx hb hts izRX9 hown hK hP 0 rfl rfl 17 (by decide) (hts _ k19) (fun _ h9 => h9) rfl dX9_keepWorks_134 ?_
              refine lv_iload hx hb dX9_keepWorks_137 (lv_at hl 4 rfl) ?_
              refine va_iald hx hb hK hP 10 0 rfl rfl (zinK (a := 0) (b := 5) i7.1 n12 (by decide)) dX9_keepWorks_139 ?_
              refine zg (fun x_33 => ?_)
              refine lv_iconst (v := 1) hx hb dX9_keepWorks_140 (by decide) ?_
              refine lv_icmp_ne (tgt := 166) hx hb dX9_keepWorks_141 (by decide) (fun cb9 => ?_) (fun cb9 => ?_)
              · skip
                have c34 : ¬ x_33.toInt = 1 := zne cb9 rfl (by decide)
                refine ziinc3 (n' := 1) (a' := 1) (b' := 6) (lv' := fun v9 => [(4, .int v9), (0, .ref o), (1, .null), (2, .int q_1), (3, .int x_3)]) hx hb dX9_keepWorks_166 hl (k := 4) rfl (by decide) (fun _ => rfl) (zaddK (i := x_4.toInt) (j := 1) rfl (by decide) i7.1 n12 (Int.le_refl _) (Int.le_refl _) (by decide)) (fun x_35 ls hx_35 hl => ?_)
                refine lv_goto (tgt := 10) hx hb dX9_keepWorks_169 (by decide) ?_
                have hl := lv_sub (l' := [(0, .ref o), (1, .null), (2, .int q_1), (3, .int x_3), (4, .int x_35)]) hl [1, 2, 3, 4, 0] rfl
                have hP : va_P g.1 vwCl (List.flatten [bTown g o a pe wo tx x_5 jo tr dy sd f_6]) H := hP
                have hD : va_D A (List.flatten [bTown g o a pe wo tx x_5 jo tr dy sd f_6]) := hD
                exact ih10_9 x_3 x_35 x_5 f_6 ⟨(Int.le_trans (by decide) hx_35.2.1), hx_35.2.2⟩ rf_6 H _ ls (zmK hx_35.1 (by decide) n12 (by decide) hk10_9)  hP hD hS (lv_sub hl [0, 1, 2, 3, 4] rfl)
              · skip
                have c36 : x_33.toInt = 1 := zeq cb9 rfl (by decide)
                have n37 : 1 ≤ x_33.toInt := Int.le_trans (Int.le_refl _) (Int.le_of_eq c36.symm)
                have n38 : x_33.toInt ≤ 1 := Int.le_trans (Int.le_of_eq c36) (Int.le_refl _)
                refine lv_aload_n hx hb dX9_keepWorks_144 rfl (lv_at hl 0 rfl) ?_
                refine lv_sipush (v := 9999) hx hb dX9_keepWorks_145 (by decide) ?_
                refine lv_aload_n hx hb dX9_keepWorks_148 rfl (lv_at hl 0 rfl) ?_
                refine va_get (D := g.1) (ci := 7) (v := .int x_5) (C := RX9) (T := TX9) (N := 19) hx hb hts izRX9 hown hK hP 0 rfl rfl 3 (by decide) (hts _ k4) (fun _ h9 => h9) rfl dX9_keepWorks_149 ?_
                refine lv_aload_n hx hb dX9_keepWorks_152 rfl (lv_at hl 0 rfl) ?_
                refine va_get (D := g.1) (ci := 7) (v := .ref (a 8)) (C := RX9) (T := TX9) (N := 19) hx hb hts izRX9 hown hK hP 0 rfl rfl 16 (by decide) (hts _ k18) (fun _ h9 => h9) rfl dX9_keepWorks_153 ?_
                refine lv_iload hx hb dX9_keepWorks_156 (lv_at hl 4 rfl) ?_
                refine va_iald hx hb hK hP 9 0 rfl rfl (zinK (a := 0) (b := 5) i7.1 n12 (by decide)) dX9_keepWorks_158 ?_
                refine zg (fun x_39 => ?_)
                refine lv_iadd hx hb dX9_keepWorks_159 ?_
                refine zg (fun x_40 => ?_)
                refine va_mmin hx hb (by rw [hml]; exact hl.1.symm) hown (hts _ k40) (hts _ k41) (hts _ k42) (hts _ k43) (Nat.le_of_ble_eq_true rfl) (Nat.le_of_ble_eq_true rfl) (Nat.le_of_ble_eq_true rfl) (Nat.le_of_ble_eq_true rfl) dX9_keepWorks_160 ?_
                refine zgmn (i := 9999) (j := x_40.toInt) (by decide) rfl (fun x_41 hx_41 => ?_)
                refine va_put (D := g.1) (ci := 7) (v := .int x_41) (ty := .int) (C := RX9) (T := TX9) (N := 19) hx hb hts izRX9 tyX9 tyX9_ok nmX9 hown hK hP hD hS 0 rfl rfl 3 (by decide) (hts _ k4) (fun _ h9 => h9) rfl (by decide +kernel) rfl rfl (Nat.le_of_ble_eq_true rfl) dX9_keepWorks_163 (fun H locs hP hD hS => ?_)
                have hP : va_P g.1 vwCl (List.flatten [bTown g o a pe wo tx x_41 jo tr dy sd f_6]) H := hP
                have hD : va_D A (List.flatten [bTown g o a pe wo tx x_41 jo tr dy sd f_6]) := hD
                refine ziinc3 (n' := 1) (a' := 1) (b' := 6) (lv' := fun v9 => [(4, .int v9), (0, .ref o), (1, .null), (2, .int q_1), (3, .int x_3)]) hx hb dX9_keepWorks_166 hl (k := 4) rfl (by decide) (fun _ => rfl) (zaddK (i := x_4.toInt) (j := 1) rfl (by decide) i7.1 n12 (Int.le_refl _) (Int.le_refl _) (by decide)) (fun x_42 ls hx_42 hl => ?_)
                refine lv_goto (tgt := 10) hx hb dX9_keepWorks_169 (by decide) ?_
                have hl := lv_sub (l' := [(0, .ref o), (1, .null), (2, .int q_1), (3, .int x_3), (4, .int x_42)]) hl [1, 2, 3, 4, 0] rfl
                have hP : va_P g.1 vwCl (List.flatten [bTown g o a pe wo tx x_41 jo tr dy sd f_6]) H := hP
                have hD : va_D A (List.flatten [bTown g o a pe wo tx x_41 jo tr dy sd f_6]) := hD
                exact ih10_9 x_3 x_42 x_41 f_6 ⟨(Int.le_trans (by decide) hx_42.2.1), hx_42.2.2⟩ rf_6 H _ ls (zmK hx_42.1 (by decide) n12 (by decide) hk10_9)  hP hD hS (lv_sub hl [0, 1, 2, 3, 4] rfl)
            · skip
              have c43 : q_1.toInt < x_31.toInt := zlti (Int32.not_le.mp cb9) rfl rfl
              refine lv_aload_n hx hb dX9_keepWorks_111 rfl (lv_at hl 0 rfl) ?_
              refine va_get (D := g.1) (ci := 7) (v := .ref (a 9)) (C := RX9) (T := TX9) (N := 19) hx hb hts izRX9 hown hK hP 0 rfl rfl 17 (by decide) (hts _ k19) (fun _ h9 => h9) rfl dX9_keepWorks_112 ?_
              refine lv_iload hx hb dX9_keepWorks_115 (lv_at hl 4 rfl) ?_
              refine lv_iconst (v := 2) hx hb dX9_keepWorks_117 (by decide) ?_
              refine va_iast hx hb hK hP hD hS 10 0 rfl rfl (zinK (a := 0) (b := 5) i7.1 n12 (by decide)) dX9_keepWorks_118 (fun H locs hP hD hS => ?_)
              obtain ⟨f44, rf44, hP, hD⟩ : ∃ f44 : Nat → Nat → Int32, zZ4 f44 ∧ va_P g.1 vwCl (List.flatten [bTown g o a pe wo tx x_5 jo tr dy sd f44]) H ∧ va_D A (List.flatten [bTown g o a pe wo tx x_5 jo tr dy sd f44]) := ⟨zu f_6 9 (upd (f_6 9) x_4.toNatClampNeg 2), (zZ4_u rf_6 (by decide)), hP, hD⟩
              refine ziincG (lv' := fun v9 => [(3, .int v9), (0, .ref o), (1, .null), (2, .int q_1), (4, .int x_4)]) hx hb dX9_keepWorks_119 hl (k := 3) rfl (by decide) (fun _ => rfl) (fun x_45 ls hl => ?_)
              refine lv_aload_n hx hb dX9_keepWorks_122 rfl (lv_at hl 1 rfl) ?_
              refine lv_aload_nN hx hb dX9_keepWorks_123 rfl (lv_at hl 2 rfl) ?_
              refine lv_iload hx hb dX9_keepWorks_124 (lv_at hl 4 rfl) ?_
              refine lv_iconst (v := 1) hx hb dX9_keepWorks_126 (by decide) ?_
              refine mcallV' (g := g) (q0 := 0) (ci := 7) (As := [.null, .int x_4, .int 1]) (rest := []) St hK hT hA hP hD hS hl.1 [0] [] rfl rfl rfl (c_writeN l g o a pe wo tx x_5 jo tr dy sd f44 x_4 1 b_pe b_wo rf44) (cwV 3 hts (zgL (zl4 k125 k126 k127 k24) k124) rfl rfl rfl (by decide +kernel) ⟨Nat.le_of_ble_eq_true rfl, Nat.le_of_ble_eq_true rfl⟩) rfl rfl rfl rfl (Nat.le_of_ble_eq_true rfl) dX9_keepWorks_127 ⟨(Nat.le_of_ble_eq_true rfl), (Nat.le_of_ble_eq_true rfl)⟩ (fun _u H locs hq46 hP hD hS => ?_)
              have hP : va_P g.1 vwCl (List.flatten [bTown g o a pe wo tx x_5 jo tr dy sd f44]) H := hP
              have hD : va_D A (List.flatten [bTown g o a pe wo tx x_5 jo tr dy sd f44]) := hD
              refine W.widen (k := 0) (n := 0) (Nat.le_of_ble_eq_true rfl) (Nat.le_of_ble_eq_true rfl) ?_
              refine W.eq (g2 := F0 m 130 ls []) rfl ?_
              refine lv_goto (tgt := 166) hx hb dX9_keepWorks_130 (by decide) ?_
              refine ziinc3 (n' := 1) (a' := 1) (b' := 6) (lv' := fun v9 => [(4, .int v9), (3, .int x_45), (0, .ref o), (1, .null), (2, .int q_1)]) hx hb dX9_keepWorks_166 hl (k := 4) rfl (by decide) (fun _ => rfl) (zaddK (i := x_4.toInt) (j := 1) rfl (by decide) i7.1 n12 (Int.le_refl _) (Int.le_refl _) (by decide)) (fun x_47 ls hx_47 hl => ?_)
              refine lv_goto (tgt := 10) hx hb dX9_keepWorks_169 (by decide) ?_
              have hl := lv_sub (l' := [(0, .ref o), (1, .null), (2, .int q_1), (3, .int x_45), (4, .int x_47)]) hl [2, 3, 4, 1, 0] rfl
              have hP : va_P g.1 vwCl (List.flatten [bTown g o a pe wo tx x_5 jo tr dy sd f44]) H := hP
              have hD : va_D A (List.flatten [bTown g o a pe wo tx x_5 jo tr dy sd f44]) := hD
              exact ih10_9 x_45 x_47 x_5 f44 ⟨(Int.le_trans (by decide) hx_47.2.1), hx_47.2.2⟩ rf44 H _ ls (zmK hx_47.1 (by decide) n12 (by decide) hk10_9)  hP hD hS (lv_sub hl [0, 1, 2, 3, 4] rfl)
        · skip
          have c48 : x_14.toInt = 0 := zeq cb9 rfl (by decide)
          have n49 : 0 ≤ x_14.toInt := Int.le_trans (Int.le_refl _) (Int.le_of_eq c48.symm)
          have n50 : x_14.toInt ≤ 0 := Int.le_trans (Int.le_of_eq c48) (Int.le_refl _)
          refine lv_iload_n hx hb dX9_keepWorks_29 rfl (lv_at hl 2 rfl) ?_
          refine lv_aload_n hx hb dX9_keepWorks_30 rfl (lv_at hl 0 rfl) ?_
          refine va_get (D := g.1) (ci := 7) (v := .ref (a 7)) (C := RX9) (T := TX9) (N := 19) hx hb hts izRX9 hown hK hP 0 rfl rfl 15 (by decide) (hts _ k17) (fun _ h9 => h9) rfl dX9_keepWorks_31 ?_
          refine lv_iload hx hb dX9_keepWorks_34 (lv_at hl 4 rfl) ?_
          refine va_iald hx hb hK hP 8 0 rfl rfl (zinK (a := 0) (b := 5) i7.1 n12 (by decide)) dX9_keepWorks_36 ?_
          refine zg (fun x_51 => ?_)
          refine lv_icmp_lt (tgt := 89) hx hb dX9_keepWorks_37 (by decide) (fun cb9 => ?_) (fun cb9 => ?_)
          · skip
            have c52 : q_1.toInt < x_51.toInt := zlti cb9 rfl rfl
            refine lv_aload_n hx hb dX9_keepWorks_89 rfl (lv_at hl 0 rfl) ?_
            refine va_get (D := g.1) (ci := 7) (v := .ref (a 9)) (C := RX9) (T := TX9) (N := 19) hx hb hts izRX9 hown hK hP 0 rfl rfl 17 (by decide) (hts _ k19) (fun _ h9 => h9) rfl dX9_keepWorks_90 ?_
            refine lv_iload hx hb dX9_keepWorks_93 (lv_at hl 4 rfl) ?_
            refine va_iald hx hb hK hP 10 0 rfl rfl (zinK (a := 0) (b := 5) i7.1 n12 (by decide)) dX9_keepWorks_95 ?_
            refine zg (fun x_53 => ?_)
            refine lv_iconst (v := 1) hx hb dX9_keepWorks_96 (by decide) ?_
            refine lv_icmp_ne (tgt := 133) hx hb dX9_keepWorks_97 (by decide) (fun cb9 => ?_) (fun cb9 => ?_)
            · skip
              have c54 : ¬ x_53.toInt = 1 := zne cb9 rfl (by decide)
              refine lv_aload_n hx hb dX9_keepWorks_133 rfl (lv_at hl 0 rfl) ?_
              refine va_get (D := g.1) (ci := 7) (v := .ref (a 9)) (C := RX9) (T := TX9) (N := 19) hx hb hts izRX9 hown hK hP 0 rfl rfl 17 (by decide) (hts _ k19) (fun _ h9 => h9) rfl dX9_keepWorks_134 ?_
              refine lv_iload hx hb dX9_keepWorks_137 (lv_at hl 4 rfl) ?_
              refine va_iald hx hb hK hP 10 0 rfl rfl (zinK (a := 0) (b := 5) i7.1 n12 (by decide)) dX9_keepWorks_139 ?_
              refine zg (fun x_55 => ?_)
              refine lv_iconst (v := 1) hx hb dX9_keepWorks_140 (by decide) ?_
              refine lv_icmp_ne (tgt := 166) hx hb dX9_keepWorks_141 (by decide) (fun cb9 => ?_) (fun cb9 => ?_)
              · skip
                have c56 : ¬ x_55.toInt = 1 := zne cb9 rfl (by decide)
                refine ziinc3 (n' := 1) (a' := 1) (b' := 6) (lv' := fun v9 => [(4, .int v9), (0, .ref o), (1, .null), (2, .int q_1), (3, .int x_3)]) hx hb dX9_keepWorks_166 hl (k := 4) rfl (by decide) (fun _ => rfl) (zaddK (i := x_4.toInt) (j := 1) rfl (by decide) i7.1 n12 (Int.le_refl _) (Int.le_refl _) (by decide)) (fun x_57 ls hx_57 hl => ?_)
                refine lv_goto (tgt := 10) hx hb dX9_keepWorks_169 (by decide) ?_
                have hl := lv_sub (l' := [(0, .ref o), (1, .null), (2, .int q_1), (3, .int x_3), (4, .int x_57)]) hl [1, 2, 3, 4, 0] rfl
                have hP : va_P g.1 vwCl (List.flatten [bTown g o a pe wo tx x_5 jo tr dy sd f_6]) H := hP
                have hD : va_D A (List.flatten [bTown g o a pe wo tx x_5 jo tr dy sd f_6]) := hD
                exact ih10_9 x_3 x_57 x_5 f_6 ⟨(Int.le_trans (by decide) hx_57.2.1), hx_57.2.2⟩ rf_6 H _ ls (zmK hx_57.1 (by decide) n12 (by decide) hk10_9)  hP hD hS (lv_sub hl [0, 1, 2, 3, 4] rfl)
              · skip
                have c58 : x_55.toInt = 1 := zeq cb9 rfl (by decide)
                have n59 : 1 ≤ x_55.toInt := Int.le_trans (Int.le_refl _) (Int.le_of_eq c58.symm)
                have n60 : x_55.toInt ≤ 1 := Int.le_trans (Int.le_of_eq c58) (Int.le_refl _)
                refine lv_aload_n hx hb dX9_keepWorks_144 rfl (lv_at hl 0 rfl) ?_
                refine lv_sipush (v := 9999) hx hb dX9_keepWorks_145 (by decide) ?_
                refine lv_aload_n hx hb dX9_keepWorks_148 rfl (lv_at hl 0 rfl) ?_
                refine va_get (D := g.1) (ci := 7) (v := .int x_5) (C := RX9) (T := TX9) (N := 19) hx hb hts izRX9 hown hK hP 0 rfl rfl 3 (by decide) (hts _ k4) (fun _ h9 => h9) rfl dX9_keepWorks_149 ?_
                refine lv_aload_n hx hb dX9_keepWorks_152 rfl (lv_at hl 0 rfl) ?_
                refine va_get (D := g.1) (ci := 7) (v := .ref (a 8)) (C := RX9) (T := TX9) (N := 19) hx hb hts izRX9 hown hK hP 0 rfl rfl 16 (by decide) (hts _ k18) (fun _ h9 => h9) rfl dX9_keepWorks_153 ?_
                refine lv_iload hx hb dX9_keepWorks_156 (lv_at hl 4 rfl) ?_
                refine va_iald hx hb hK hP 9 0 rfl rfl (zinK (a := 0) (b := 5) i7.1 n12 (by decide)) dX9_keepWorks_158 ?_
                refine zg (fun x_61 => ?_)
                refine lv_iadd hx hb dX9_keepWorks_159 ?_
                refine zg (fun x_62 => ?_)
                refine va_mmin hx hb (by rw [hml]; exact hl.1.symm) hown (hts _ k40) (hts _ k41) (hts _ k42) (hts _ k43) (Nat.le_of_ble_eq_true rfl) (Nat.le_of_ble_eq_true rfl) (Nat.le_of_ble_eq_true rfl) (Nat.le_of_ble_eq_true rfl) dX9_keepWorks_160 ?_
                refine zgmn (i := 9999) (j := x_62.toInt) (by decide) rfl (fun x_63 hx_63 => ?_)
                refine va_put (D := g.1) (ci := 7) (v := .int x_63) (ty := .int) (C := RX9) (T := TX9) (N := 19) hx hb hts izRX9 tyX9 tyX9_ok nmX9 hown hK hP hD hS 0 rfl rfl 3 (by decide) (hts _ k4) (fun _ h9 => h9) rfl (by decide +kernel) rfl rfl (Nat.le_of_ble_eq_true rfl) dX9_keepWorks_163 (fun H locs hP hD hS => ?_)
                have hP : va_P g.1 vwCl (List.flatten [bTown g o a pe wo tx x_63 jo tr dy sd f_6]) H := hP
                have hD : va_D A (List.flatten [bTown g o a pe wo tx x_63 jo tr dy sd f_6]) := hD
                refine ziinc3 (n' := 1) (a' := 1) (b' := 6) (lv' := fun v9 => [(4, .int v9), (0, .ref o), (1, .null), (2, .int q_1), (3, .int x_3)]) hx hb dX9_keepWorks_166 hl (k := 4) rfl (by decide) (fun _ => rfl) (zaddK (i := x_4.toInt) (j := 1) rfl (by decide) i7.1 n12 (Int.le_refl _) (Int.le_refl _) (by decide)) (fun x_64 ls hx_64 hl => ?_)
                refine lv_goto (tgt := 10) hx hb dX9_keepWorks_169 (by decide) ?_
                have hl := lv_sub (l' := [(0, .ref o), (1, .null), (2, .int q_1), (3, .int x_3), (4, .int x_64)]) hl [1, 2, 3, 4, 0] rfl
                have hP : va_P g.1 vwCl (List.flatten [bTown g o a pe wo tx x_63 jo tr dy sd f_6]) H := hP
                have hD : va_D A (List.flatten [bTown g o a pe wo tx x_63 jo tr dy sd f_6]) := hD
                exact ih10_9 x_3 x_64 x_63 f_6 ⟨(Int.le_trans (by decide) hx_64.2.1), hx_64.2.2⟩ rf_6 H _ ls (zmK hx_64.1 (by decide) n12 (by decide) hk10_9)  hP hD hS (lv_sub hl [0, 1, 2, 3, 4] rfl)
            · skip
              have c65 : x_53.toInt = 1 := zeq cb9 rfl (by decide)
              have n66 : 1 ≤ x_53.toInt := Int.le_trans (Int.le_refl _) (Int.le_of_eq c65.symm)
              have n67 : x_53.toInt ≤ 1 := Int.le_trans (Int.le_of_eq c65) (Int.le_refl _)
              refine lv_iload_n hx hb dX9_keepWorks_100 rfl (lv_at hl 2 rfl) ?_
              refine lv_aload_n hx hb dX9_keepWorks_101 rfl (lv_at hl 0 rfl) ?_
              refine va_get (D := g.1) (ci := 7) (v := .ref (a 7)) (C := RX9) (T := TX9) (N := 19) hx hb hts izRX9 hown hK hP 0 rfl rfl 15 (by decide) (hts _ k17) (fun _ h9 => h9) rfl dX9_keepWorks_102 ?_
              refine lv_iload hx hb dX9_keepWorks_105 (lv_at hl 4 rfl) ?_
              refine va_iald hx hb hK hP 8 0 rfl rfl (zinK (a := 0) (b := 5) i7.1 n12 (by decide)) dX9_keepWorks_107 ?_
              refine zg (fun x_68 => ?_)
              refine lv_icmp_ge (tgt := 133) hx hb dX9_keepWorks_108 (by decide) (fun cb9 => ?_) (fun cb9 => ?_)
              · skip
                have c69 : x_68.toInt ≤ q_1.toInt := zle cb9 rfl rfl
                refine lv_aload_n hx hb dX9_keepWorks_133 rfl (lv_at hl 0 rfl) ?_
                refine va_get (D := g.1) (ci := 7) (v := .ref (a 9)) (C := RX9) (T := TX9) (N := 19) hx hb hts izRX9 hown hK hP 0 rfl rfl 17 (by decide) (hts _ k19) (fun _ h9 => h9) rfl dX9_keepWorks_134 ?_
                refine lv_iload hx hb dX9_keepWorks_137 (lv_at hl 4 rfl) ?_
                refine va_iald hx hb hK hP 10 0 rfl rfl (zinK (a := 0) (b := 5) i7.1 n12 (by decide)) dX9_keepWorks_139 ?_
                refine zg (fun x_70 => ?_)
                refine lv_iconst (v := 1) hx hb dX9_keepWorks_140 (by decide) ?_
                refine lv_icmp_ne (tgt := 166) hx hb dX9_keepWorks_141 (by decide) (fun cb9 => ?_) (fun cb9 => ?_)
                · skip
                  have c71 : ¬ x_70.toInt = 1 := zne cb9 rfl (by decide)
                  refine ziinc3 (n' := 1) (a' := 1) (b' := 6) (lv' := fun v9 => [(4, .int v9), (0, .ref o), (1, .null), (2, .int q_1), (3, .int x_3)]) hx hb dX9_keepWorks_166 hl (k := 4) rfl (by decide) (fun _ => rfl) (zaddK (i := x_4.toInt) (j := 1) rfl (by decide) i7.1 n12 (Int.le_refl _) (Int.le_refl _) (by decide)) (fun x_72 ls hx_72 hl => ?_)
                  refine lv_goto (tgt := 10) hx hb dX9_keepWorks_169 (by decide) ?_
                  have hl := lv_sub (l' := [(0, .ref o), (1, .null), (2, .int q_1), (3, .int x_3), (4, .int x_72)]) hl [1, 2, 3, 4, 0] rfl
                  have hP : va_P g.1 vwCl (List.flatten [bTown g o a pe wo tx x_5 jo tr dy sd f_6]) H := hP
                  have hD : va_D A (List.flatten [bTown g o a pe wo tx x_5 jo tr dy sd f_6]) := hD
                  exact ih10_9 x_3 x_72 x_5 f_6 ⟨(Int.le_trans (by decide) hx_72.2.1), hx_72.2.2⟩ rf_6 H _ ls (zmK hx_72.1 (by decide) n12 (by decide) hk10_9)  hP hD hS (lv_sub hl [0, 1, 2, 3, 4] rfl)
                · skip
                  have c73 : x_70.toInt = 1 := zeq cb9 rfl (by decide)
                  have n74 : 1 ≤ x_70.toInt := Int.le_trans (Int.le_refl _) (Int.le_of_eq c73.symm)
                  have n75 : x_70.toInt ≤ 1 := Int.le_trans (Int.le_of_eq c73) (Int.le_refl _)
                  refine lv_aload_n hx hb dX9_keepWorks_144 rfl (lv_at hl 0 rfl) ?_
                  refine lv_sipush (v := 9999) hx hb dX9_keepWorks_145 (by decide) ?_
                  refine lv_aload_n hx hb dX9_keepWorks_148 rfl (lv_at hl 0 rfl) ?_
                  refine va_get (D := g.1) (ci := 7) (v := .int x_5) (C := RX9) (T := TX9) (N := 19) hx hb hts izRX9 hown hK hP 0 rfl rfl 3 (by decide) (hts _ k4) (fun _ h9 => h9) rfl dX9_keepWorks_149 ?_
                  refine lv_aload_n hx hb dX9_keepWorks_152 rfl (lv_at hl 0 rfl) ?_
                  refine va_get (D := g.1) (ci := 7) (v := .ref (a 8)) (C := RX9) (T := TX9) (N := 19) hx hb hts izRX9 hown hK hP 0 rfl rfl 16 (by decide) (hts _ k18) (fun _ h9 => h9) rfl dX9_keepWorks_153 ?_
                  refine lv_iload hx hb dX9_keepWorks_156 (lv_at hl 4 rfl) ?_
                  refine va_iald hx hb hK hP 9 0 rfl rfl (zinK (a := 0) (b := 5) i7.1 n12 (by decide)) dX9_keepWorks_158 ?_
                  refine zg (fun x_76 => ?_)
                  refine lv_iadd hx hb dX9_keepWorks_159 ?_
                  refine zg (fun x_77 => ?_)
                  refine va_mmin hx hb (by rw [hml]; exact hl.1.symm) hown (hts _ k40) (hts _ k41) (hts _ k42) (hts _ k43) (Nat.le_of_ble_eq_true rfl) (Nat.le_of_ble_eq_true rfl) (Nat.le_of_ble_eq_true rfl) (Nat.le_of_ble_eq_true rfl) dX9_keepWorks_160 ?_
                  refine zgmn (i := 9999) (j := x_77.toInt) (by decide) rfl (fun x_78 hx_78 => ?_)
                  refine va_put (D := g.1) (ci := 7) (v := .int x_78) (ty := .int) (C := RX9) (T := TX9) (N := 19) hx hb hts izRX9 tyX9 tyX9_ok nmX9 hown hK hP hD hS 0 rfl rfl 3 (by decide) (hts _ k4) (fun _ h9 => h9) rfl (by decide +kernel) rfl rfl (Nat.le_of_ble_eq_true rfl) dX9_keepWorks_163 (fun H locs hP hD hS => ?_)
                  have hP : va_P g.1 vwCl (List.flatten [bTown g o a pe wo tx x_78 jo tr dy sd f_6]) H := hP
                  have hD : va_D A (List.flatten [bTown g o a pe wo tx x_78 jo tr dy sd f_6]) := hD
                  refine ziinc3 (n' := 1) (a' := 1) (b' := 6) (lv' := fun v9 => [(4, .int v9), (0, .ref o), (1, .null), (2, .int q_1), (3, .int x_3)]) hx hb dX9_keepWorks_166 hl (k := 4) rfl (by decide) (fun _ => rfl) (zaddK (i := x_4.toInt) (j := 1) rfl (by decide) i7.1 n12 (Int.le_refl _) (Int.le_refl _) (by decide)) (fun x_79 ls hx_79 hl => ?_)
                  refine lv_goto (tgt := 10) hx hb dX9_keepWorks_169 (by decide) ?_
                  have hl := lv_sub (l' := [(0, .ref o), (1, .null), (2, .int q_1), (3, .int x_3), (4, .int x_79)]) hl [1, 2, 3, 4, 0] rfl
                  have hP : va_P g.1 vwCl (List.flatten [bTown g o a pe wo tx x_78 jo tr dy sd f_6]) H := hP
                  have hD : va_D A (List.flatten [bTown g o a pe wo tx x_78 jo tr dy sd f_6]) := hD
                  exact ih10_9 x_3 x_79 x_78 f_6 ⟨(Int.le_trans (by decide) hx_79.2.1), hx_79.2.2⟩ rf_6 H _ ls (zmK hx_79.1 (by decide) n12 (by decide) hk10_9)  hP hD hS (lv_sub hl [0, 1, 2, 3, 4] rfl)
              · skip
                have c80 : q_1.toInt < x_68.toInt := zlti (Int32.not_le.mp cb9) rfl rfl
                refine lv_aload_n hx hb dX9_keepWorks_111 rfl (lv_at hl 0 rfl) ?_
                refine va_get (D := g.1) (ci := 7) (v := .ref (a 9)) (C := RX9) (T := TX9) (N := 19) hx hb hts izRX9 hown hK hP 0 rfl rfl 17 (by decide) (hts _ k19) (fun _ h9 => h9) rfl dX9_keepWorks_112 ?_
                refine lv_iload hx hb dX9_keepWorks_115 (lv_at hl 4 rfl) ?_
                refine lv_iconst (v := 2) hx hb dX9_keepWorks_117 (by decide) ?_
                refine va_iast hx hb hK hP hD hS 10 0 rfl rfl (zinK (a := 0) (b := 5) i7.1 n12 (by decide)) dX9_keepWorks_118 (fun H locs hP hD hS => ?_)
                obtain ⟨f81, rf81, hP, hD⟩ : ∃ f81 : Nat → Nat → Int32, zZ4 f81 ∧ va_P g.1 vwCl (List.flatten [bTown g o a pe wo tx x_5 jo tr dy sd f81]) H ∧ va_D A (List.flatten [bTown g o a pe wo tx x_5 jo tr dy sd f81]) := ⟨zu f_6 9 (upd (f_6 9) x_4.toNatClampNeg 2), (zZ4_u rf_6 (by decide)), hP, hD⟩
                refine ziincG (lv' := fun v9 => [(3, .int v9), (0, .ref o), (1, .null), (2, .int q_1), (4, .int x_4)]) hx hb dX9_keepWorks_119 hl (k := 3) rfl (by decide) (fun _ => rfl) (fun x_82 ls hl => ?_)
                refine lv_aload_n hx hb dX9_keepWorks_122 rfl (lv_at hl 1 rfl) ?_
                refine lv_aload_nN hx hb dX9_keepWorks_123 rfl (lv_at hl 2 rfl) ?_
                refine lv_iload hx hb dX9_keepWorks_124 (lv_at hl 4 rfl) ?_
                refine lv_iconst (v := 1) hx hb dX9_keepWorks_126 (by decide) ?_
                refine mcallV' (g := g) (q0 := 0) (ci := 7) (As := [.null, .int x_4, .int 1]) (rest := []) St hK hT hA hP hD hS hl.1 [0] [] rfl rfl rfl (c_writeN l g o a pe wo tx x_5 jo tr dy sd f81 x_4 1 b_pe b_wo rf81) (cwV 3 hts (zgL (zl4 k125 k126 k127 k24) k124) rfl rfl rfl (by decide +kernel) ⟨Nat.le_of_ble_eq_true rfl, Nat.le_of_ble_eq_true rfl⟩) rfl rfl rfl rfl (Nat.le_of_ble_eq_true rfl) dX9_keepWorks_127 ⟨(Nat.le_of_ble_eq_true rfl), (Nat.le_of_ble_eq_true rfl)⟩ (fun _u H locs hq83 hP hD hS => ?_)
                have hP : va_P g.1 vwCl (List.flatten [bTown g o a pe wo tx x_5 jo tr dy sd f81]) H := hP
                have hD : va_D A (List.flatten [bTown g o a pe wo tx x_5 jo tr dy sd f81]) := hD
                refine W.widen (k := 0) (n := 0) (Nat.le_of_ble_eq_true rfl) (Nat.le_of_ble_eq_true rfl) ?_
                refine W.eq (g2 := F0 m 130 ls []) rfl ?_
                refine lv_goto (tgt := 166) hx hb dX9_keepWorks_130 (by decide) ?_
                refine ziinc3 (n' := 1) (a' := 1) (b' := 6) (lv' := fun v9 => [(4, .int v9), (3, .int x_82), (0, .ref o), (1, .null), (2, .int q_1)]) hx hb dX9_keepWorks_166 hl (k := 4) rfl (by decide) (fun _ => rfl) (zaddK (i := x_4.toInt) (j := 1) rfl (by decide) i7.1 n12 (Int.le_refl _) (Int.le_refl _) (by decide)) (fun x_84 ls hx_84 hl => ?_)
                refine lv_goto (tgt := 10) hx hb dX9_keepWorks_169 (by decide) ?_
                have hl := lv_sub (l' := [(0, .ref o), (1, .null), (2, .int q_1), (3, .int x_82), (4, .int x_84)]) hl [2, 3, 4, 1, 0] rfl
                have hP : va_P g.1 vwCl (List.flatten [bTown g o a pe wo tx x_5 jo tr dy sd f81]) H := hP
                have hD : va_D A (List.flatten [bTown g o a pe wo tx x_5 jo tr dy sd f81]) := hD
                exact ih10_9 x_82 x_84 x_5 f81 ⟨(Int.le_trans (by decide) hx_84.2.1), hx_84.2.2⟩ rf81 H _ ls (zmK hx_84.1 (by decide) n12 (by decide) hk10_9)  hP hD hS (lv_sub hl [0, 1, 2, 3, 4] rfl)
          · skip
            have c85 : x_51.toInt ≤ q_1.toInt := zle (Int32.not_lt.mp cb9) rfl rfl
            refine lv_aload_n hx hb dX9_keepWorks_40 rfl (lv_at hl 0 rfl) ?_
            refine va_get (D := g.1) (ci := 7) (v := .int x_5) (C := RX9) (T := TX9) (N := 19) hx hb hts izRX9 hown hK hP 0 rfl rfl 3 (by decide) (hts _ k4) (fun _ h9 => h9) rfl dX9_keepWorks_41 ?_
            refine lv_aload_n hx hb dX9_keepWorks_44 rfl (lv_at hl 0 rfl) ?_
            refine va_get (D := g.1) (ci := 7) (v := .ref (a 6)) (C := RX9) (T := TX9) (N := 19) hx hb hts izRX9 hown hK hP 0 rfl rfl 14 (by decide) (hts _ k16) (fun _ h9 => h9) rfl dX9_keepWorks_45 ?_
            refine lv_iload hx hb dX9_keepWorks_48 (lv_at hl 4 rfl) ?_
            refine va_iald hx hb hK hP 7 0 rfl rfl (zinK (a := 0) (b := 5) i7.1 n12 (by decide)) dX9_keepWorks_50 ?_
            refine zg (fun x_86 => ?_)
            refine lv_icmp_lt (tgt := 89) hx hb dX9_keepWorks_51 (by decide) (fun cb9 => ?_) (fun cb9 => ?_)
            · skip
              have c87 : x_5.toInt < x_86.toInt := zlti cb9 rfl rfl
              refine lv_aload_n hx hb dX9_keepWorks_89 rfl (lv_at hl 0 rfl) ?_
              refine va_get (D := g.1) (ci := 7) (v := .ref (a 9)) (C := RX9) (T := TX9) (N := 19) hx hb hts izRX9 hown hK hP 0 rfl rfl 17 (by decide) (hts _ k19) (fun _ h9 => h9) rfl dX9_keepWorks_90 ?_
              refine lv_iload hx hb dX9_keepWorks_93 (lv_at hl 4 rfl) ?_
              refine va_iald hx hb hK hP 10 0 rfl rfl (zinK (a := 0) (b := 5) i7.1 n12 (by decide)) dX9_keepWorks_95 ?_
              refine zg (fun x_88 => ?_)
              refine lv_iconst (v := 1) hx hb dX9_keepWorks_96 (by decide) ?_
              refine lv_icmp_ne (tgt := 133) hx hb dX9_keepWorks_97 (by decide) (fun cb9 => ?_) (fun cb9 => ?_)
              · skip
                have c89 : ¬ x_88.toInt = 1 := zne cb9 rfl (by decide)
                refine lv_aload_n hx hb dX9_keepWorks_133 rfl (lv_at hl 0 rfl) ?_
                refine va_get (D := g.1) (ci := 7) (v := .ref (a 9)) (C := RX9) (T := TX9) (N := 19) hx hb hts izRX9 hown hK hP 0 rfl rfl 17 (by decide) (hts _ k19) (fun _ h9 => h9) rfl dX9_keepWorks_134 ?_
                refine lv_iload hx hb dX9_keepWorks_137 (lv_at hl 4 rfl) ?_
                refine va_iald hx hb hK hP 10 0 rfl rfl (zinK (a := 0) (b := 5) i7.1 n12 (by decide)) dX9_keepWorks_139 ?_
                refine zg (fun x_90 => ?_)
                refine lv_iconst (v := 1) hx hb dX9_keepWorks_140 (by decide) ?_
                refine lv_icmp_ne (tgt := 166) hx hb dX9_keepWorks_141 (by decide) (fun cb9 => ?_) (fun cb9 => ?_)
                · skip
                  have c91 : ¬ x_90.toInt = 1 := zne cb9 rfl (by decide)
                  refine ziinc3 (n' := 1) (a' := 1) (b' := 6) (lv' := fun v9 => [(4, .int v9), (0, .ref o), (1, .null), (2, .int q_1), (3, .int x_3)]) hx hb dX9_keepWorks_166 hl (k := 4) rfl (by decide) (fun _ => rfl) (zaddK (i := x_4.toInt) (j := 1) rfl (by decide) i7.1 n12 (Int.le_refl _) (Int.le_refl _) (by decide)) (fun x_92 ls hx_92 hl => ?_)
                  refine lv_goto (tgt := 10) hx hb dX9_keepWorks_169 (by decide) ?_
                  have hl := lv_sub (l' := [(0, .ref o), (1, .null), (2, .int q_1), (3, .int x_3), (4, .int x_92)]) hl [1, 2, 3, 4, 0] rfl
                  have hP : va_P g.1 vwCl (List.flatten [bTown g o a pe wo tx x_5 jo tr dy sd f_6]) H := hP
                  have hD : va_D A (List.flatten [bTown g o a pe wo tx x_5 jo tr dy sd f_6]) := hD
                  exact ih10_9 x_3 x_92 x_5 f_6 ⟨(Int.le_trans (by decide) hx_92.2.1), hx_92.2.2⟩ rf_6 H _ ls (zmK hx_92.1 (by decide) n12 (by decide) hk10_9)  hP hD hS (lv_sub hl [0, 1, 2, 3, 4] rfl)
                · skip
                  have c93 : x_90.toInt = 1 := zeq cb9 rfl (by decide)
                  have n94 : 1 ≤ x_90.toInt := Int.le_trans (Int.le_refl _) (Int.le_of_eq c93.symm)
                  have n95 : x_90.toInt ≤ 1 := Int.le_trans (Int.le_of_eq c93) (Int.le_refl _)
                  refine lv_aload_n hx hb dX9_keepWorks_144 rfl (lv_at hl 0 rfl) ?_
                  refine lv_sipush (v := 9999) hx hb dX9_keepWorks_145 (by decide) ?_
                  refine lv_aload_n hx hb dX9_keepWorks_148 rfl (lv_at hl 0 rfl) ?_
                  refine va_get (D := g.1) (ci := 7) (v := .int x_5) (C := RX9) (T := TX9) (N := 19) hx hb hts izRX9 hown hK hP 0 rfl rfl 3 (by decide) (hts _ k4) (fun _ h9 => h9) rfl dX9_keepWorks_149 ?_
                  refine lv_aload_n hx hb dX9_keepWorks_152 rfl (lv_at hl 0 rfl) ?_
                  refine va_get (D := g.1) (ci := 7) (v := .ref (a 8)) (C := RX9) (T := TX9) (N := 19) hx hb hts izRX9 hown hK hP 0 rfl rfl 16 (by decide) (hts _ k18) (fun _ h9 => h9) rfl dX9_keepWorks_153 ?_
                  refine lv_iload hx hb dX9_keepWorks_156 (lv_at hl 4 rfl) ?_
                  refine va_iald hx hb hK hP 9 0 rfl rfl (zinK (a := 0) (b := 5) i7.1 n12 (by decide)) dX9_keepWorks_158 ?_
                  refine zg (fun x_96 => ?_)
                  refine lv_iadd hx hb dX9_keepWorks_159 ?_
                  refine zg (fun x_97 => ?_)
                  refine va_mmin hx hb (by rw [hml]; exact hl.1.symm) hown (hts _ k40) (hts _ k41) (hts _ k42) (hts _ k43) (Nat.le_of_ble_eq_true rfl) (Nat.le_of_ble_eq_true rfl) (Nat.le_of_ble_eq_true rfl) (Nat.le_of_ble_eq_true rfl) dX9_keepWorks_160 ?_
                  refine zgmn (i := 9999) (j := x_97.toInt) (by decide) rfl (fun x_98 hx_98 => ?_)
                  refine va_put (D := g.1) (ci := 7) (v := .int x_98) (ty := .int) (C := RX9) (T := TX9) (N := 19) hx hb hts izRX9 tyX9 tyX9_ok nmX9 hown hK hP hD hS 0 rfl rfl 3 (by decide) (hts _ k4) (fun _ h9 => h9) rfl (by decide +kernel) rfl rfl (Nat.le_of_ble_eq_true rfl) dX9_keepWorks_163 (fun H locs hP hD hS => ?_)
                  have hP : va_P g.1 vwCl (List.flatten [bTown g o a pe wo tx x_98 jo tr dy sd f_6]) H := hP
                  have hD : va_D A (List.flatten [bTown g o a pe wo tx x_98 jo tr dy sd f_6]) := hD
                  refine ziinc3 (n' := 1) (a' := 1) (b' := 6) (lv' := fun v9 => [(4, .int v9), (0, .ref o), (1, .null), (2, .int q_1), (3, .int x_3)]) hx hb dX9_keepWorks_166 hl (k := 4) rfl (by decide) (fun _ => rfl) (zaddK (i := x_4.toInt) (j := 1) rfl (by decide) i7.1 n12 (Int.le_refl _) (Int.le_refl _) (by decide)) (fun x_99 ls hx_99 hl => ?_)
                  refine lv_goto (tgt := 10) hx hb dX9_keepWorks_169 (by decide) ?_
                  have hl := lv_sub (l' := [(0, .ref o), (1, .null), (2, .int q_1), (3, .int x_3), (4, .int x_99)]) hl [1, 2, 3, 4, 0] rfl
                  have hP : va_P g.1 vwCl (List.flatten [bTown g o a pe wo tx x_98 jo tr dy sd f_6]) H := hP
                  have hD : va_D A (List.flatten [bTown g o a pe wo tx x_98 jo tr dy sd f_6]) := hD
                  exact ih10_9 x_3 x_99 x_98 f_6 ⟨(Int.le_trans (by decide) hx_99.2.1), hx_99.2.2⟩ rf_6 H _ ls (zmK hx_99.1 (by decide) n12 (by decide) hk10_9)  hP hD hS (lv_sub hl [0, 1, 2, 3, 4] rfl)
              · skip
                have c100 : x_88.toInt = 1 := zeq cb9 rfl (by decide)
                have n101 : 1 ≤ x_88.toInt := Int.le_trans (Int.le_refl _) (Int.le_of_eq c100.symm)
                have n102 : x_88.toInt ≤ 1 := Int.le_trans (Int.le_of_eq c100) (Int.le_refl _)
                refine lv_iload_n hx hb dX9_keepWorks_100 rfl (lv_at hl 2 rfl) ?_
                refine lv_aload_n hx hb dX9_keepWorks_101 rfl (lv_at hl 0 rfl) ?_
                refine va_get (D := g.1) (ci := 7) (v := .ref (a 7)) (C := RX9) (T := TX9) (N := 19) hx hb hts izRX9 hown hK hP 0 rfl rfl 15 (by decide) (hts _ k17) (fun _ h9 => h9) rfl dX9_keepWorks_102 ?_
                refine lv_iload hx hb dX9_keepWorks_105 (lv_at hl 4 rfl) ?_
                refine va_iald hx hb hK hP 8 0 rfl rfl (zinK (a := 0) (b := 5) i7.1 n12 (by decide)) dX9_keepWorks_107 ?_
                refine zg (fun x_103 => ?_)
                refine lv_icmp_ge (tgt := 133) hx hb dX9_keepWorks_108 (by decide) (fun cb9 => ?_) (fun cb9 => ?_)
                · skip
                  have c104 : x_103.toInt ≤ q_1.toInt := zle cb9 rfl rfl
                  refine lv_aload_n hx hb dX9_keepWorks_133 rfl (lv_at hl 0 rfl) ?_
                  refine va_get (D := g.1) (ci := 7) (v := .ref (a 9)) (C := RX9) (T := TX9) (N := 19) hx hb hts izRX9 hown hK hP 0 rfl rfl 17 (by decide) (hts _ k19) (fun _ h9 => h9) rfl dX9_keepWorks_134 ?_
                  refine lv_iload hx hb dX9_keepWorks_137 (lv_at hl 4 rfl) ?_
                  refine va_iald hx hb hK hP 10 0 rfl rfl (zinK (a := 0) (b := 5) i7.1 n12 (by decide)) dX9_keepWorks_139 ?_
                  refine zg (fun x_105 => ?_)
                  refine lv_iconst (v := 1) hx hb dX9_keepWorks_140 (by decide) ?_
                  refine lv_icmp_ne (tgt := 166) hx hb dX9_keepWorks_141 (by decide) (fun cb9 => ?_) (fun cb9 => ?_)
                  · skip
                    have c106 : ¬ x_105.toInt = 1 := zne cb9 rfl (by decide)
                    refine ziinc3 (n' := 1) (a' := 1) (b' := 6) (lv' := fun v9 => [(4, .int v9), (0, .ref o), (1, .null), (2, .int q_1), (3, .int x_3)]) hx hb dX9_keepWorks_166 hl (k := 4) rfl (by decide) (fun _ => rfl) (zaddK (i := x_4.toInt) (j := 1) rfl (by decide) i7.1 n12 (Int.le_refl _) (Int.le_refl _) (by decide)) (fun x_107 ls hx_107 hl => ?_)
                    refine lv_goto (tgt := 10) hx hb dX9_keepWorks_169 (by decide) ?_
                    have hl := lv_sub (l' := [(0, .ref o), (1, .null), (2, .int q_1), (3, .int x_3), (4, .int x_107)]) hl [1, 2, 3, 4, 0] rfl
                    have hP : va_P g.1 vwCl (List.flatten [bTown g o a pe wo tx x_5 jo tr dy sd f_6]) H := hP
                    have hD : va_D A (List.flatten [bTown g o a pe wo tx x_5 jo tr dy sd f_6]) := hD
                    exact ih10_9 x_3 x_107 x_5 f_6 ⟨(Int.le_trans (by decide) hx_107.2.1), hx_107.2.2⟩ rf_6 H _ ls (zmK hx_107.1 (by decide) n12 (by decide) hk10_9)  hP hD hS (lv_sub hl [0, 1, 2, 3, 4] rfl)
                  · skip
                    have c108 : x_105.toInt = 1 := zeq cb9 rfl (by decide)
                    have n109 : 1 ≤ x_105.toInt := Int.le_trans (Int.le_refl _) (Int.le_of_eq c108.symm)
                    have n110 : x_105.toInt ≤ 1 := Int.le_trans (Int.le_of_eq c108) (Int.le_refl _)
                    refine lv_aload_n hx hb dX9_keepWorks_144 rfl (lv_at hl 0 rfl) ?_
                    refine lv_sipush (v := 9999) hx hb dX9_keepWorks_145 (by decide) ?_
                    refine lv_aload_n hx hb dX9_keepWorks_148 rfl (lv_at hl 0 rfl) ?_
                    refine va_get (D := g.1) (ci := 7) (v := .int x_5) (C := RX9) (T := TX9) (N := 19) hx hb hts izRX9 hown hK hP 0 rfl rfl 3 (by decide) (hts _ k4) (fun _ h9 => h9) rfl dX9_keepWorks_149 ?_
                    refine lv_aload_n hx hb dX9_keepWorks_152 rfl (lv_at hl 0 rfl) ?_
                    refine va_get (D := g.1) (ci := 7) (v := .ref (a 8)) (C := RX9) (T := TX9) (N := 19) hx hb hts izRX9 hown hK hP 0 rfl rfl 16 (by decide) (hts _ k18) (fun _ h9 => h9) rfl dX9_keepWorks_153 ?_
                    refine lv_iload hx hb dX9_keepWorks_156 (lv_at hl 4 rfl) ?_
                    refine va_iald hx hb hK hP 9 0 rfl rfl (zinK (a := 0) (b := 5) i7.1 n12 (by decide)) dX9_keepWorks_158 ?_
                    refine zg (fun x_111 => ?_)
                    refine lv_iadd hx hb dX9_keepWorks_159 ?_
                    refine zg (fun x_112 => ?_)
                    refine va_mmin hx hb (by rw [hml]; exact hl.1.symm) hown (hts _ k40) (hts _ k41) (hts _ k42) (hts _ k43) (Nat.le_of_ble_eq_true rfl) (Nat.le_of_ble_eq_true rfl) (Nat.le_of_ble_eq_true rfl) (Nat.le_of_ble_eq_true rfl) dX9_keepWorks_160 ?_
                    refine zgmn (i := 9999) (j := x_112.toInt) (by decide) rfl (fun x_113 hx_113 => ?_)
                    refine va_put (D := g.1) (ci := 7) (v := .int x_113) (ty := .int) (C := RX9) (T := TX9) (N := 19) hx hb hts izRX9 tyX9 tyX9_ok nmX9 hown hK hP hD hS 0 rfl rfl 3 (by decide) (hts _ k4) (fun _ h9 => h9) rfl (by decide +kernel) rfl rfl (Nat.le_of_ble_eq_true rfl) dX9_keepWorks_163 (fun H locs hP hD hS => ?_)
                    have hP : va_P g.1 vwCl (List.flatten [bTown g o a pe wo tx x_113 jo tr dy sd f_6]) H := hP
                    have hD : va_D A (List.flatten [bTown g o a pe wo tx x_113 jo tr dy sd f_6]) := hD
                    refine ziinc3 (n' := 1) (a' := 1) (b' := 6) (lv' := fun v9 => [(4, .int v9), (0, .ref o), (1, .null), (2, .int q_1), (3, .int x_3)]) hx hb dX9_keepWorks_166 hl (k := 4) rfl (by decide) (fun _ => rfl) (zaddK (i := x_4.toInt) (j := 1) rfl (by decide) i7.1 n12 (Int.le_refl _) (Int.le_refl _) (by decide)) (fun x_114 ls hx_114 hl => ?_)
                    refine lv_goto (tgt := 10) hx hb dX9_keepWorks_169 (by decide) ?_
                    have hl := lv_sub (l' := [(0, .ref o), (1, .null), (2, .int q_1), (3, .int x_3), (4, .int x_114)]) hl [1, 2, 3, 4, 0] rfl
                    have hP : va_P g.1 vwCl (List.flatten [bTown g o a pe wo tx x_113 jo tr dy sd f_6]) H := hP
                    have hD : va_D A (List.flatten [bTown g o a pe wo tx x_113 jo tr dy sd f_6]) := hD
                    exact ih10_9 x_3 x_114 x_113 f_6 ⟨(Int.le_trans (by decide) hx_114.2.1), hx_114.2.2⟩ rf_6 H _ ls (zmK hx_114.1 (by decide) n12 (by decide) hk10_9)  hP hD hS (lv_sub hl [0, 1, 2, 3, 4] rfl)
                · skip
                  have c115 : q_1.toInt < x_103.toInt := zlti (Int32.not_le.mp cb9) rfl rfl
                  refine lv_aload_n hx hb dX9_keepWorks_111 rfl (lv_at hl 0 rfl) ?_
                  refine va_get (D := g.1) (ci := 7) (v := .ref (a 9)) (C := RX9) (T := TX9) (N := 19) hx hb hts izRX9 hown hK hP 0 rfl rfl 17 (by decide) (hts _ k19) (fun _ h9 => h9) rfl dX9_keepWorks_112 ?_
                  refine lv_iload hx hb dX9_keepWorks_115 (lv_at hl 4 rfl) ?_
                  refine lv_iconst (v := 2) hx hb dX9_keepWorks_117 (by decide) ?_
                  refine va_iast hx hb hK hP hD hS 10 0 rfl rfl (zinK (a := 0) (b := 5) i7.1 n12 (by decide)) dX9_keepWorks_118 (fun H locs hP hD hS => ?_)
                  obtain ⟨f116, rf116, hP, hD⟩ : ∃ f116 : Nat → Nat → Int32, zZ4 f116 ∧ va_P g.1 vwCl (List.flatten [bTown g o a pe wo tx x_5 jo tr dy sd f116]) H ∧ va_D A (List.flatten [bTown g o a pe wo tx x_5 jo tr dy sd f116]) := ⟨zu f_6 9 (upd (f_6 9) x_4.toNatClampNeg 2), (zZ4_u rf_6 (by decide)), hP, hD⟩
                  refine ziincG (lv' := fun v9 => [(3, .int v9), (0, .ref o), (1, .null), (2, .int q_1), (4, .int x_4)]) hx hb dX9_keepWorks_119 hl (k := 3) rfl (by decide) (fun _ => rfl) (fun x_117 ls hl => ?_)
                  refine lv_aload_n hx hb dX9_keepWorks_122 rfl (lv_at hl 1 rfl) ?_
                  refine lv_aload_nN hx hb dX9_keepWorks_123 rfl (lv_at hl 2 rfl) ?_
                  refine lv_iload hx hb dX9_keepWorks_124 (lv_at hl 4 rfl) ?_
                  refine lv_iconst (v := 1) hx hb dX9_keepWorks_126 (by decide) ?_
                  refine mcallV' (g := g) (q0 := 0) (ci := 7) (As := [.null, .int x_4, .int 1]) (rest := []) St hK hT hA hP hD hS hl.1 [0] [] rfl rfl rfl (c_writeN l g o a pe wo tx x_5 jo tr dy sd f116 x_4 1 b_pe b_wo rf116) (cwV 3 hts (zgL (zl4 k125 k126 k127 k24) k124) rfl rfl rfl (by decide +kernel) ⟨Nat.le_of_ble_eq_true rfl, Nat.le_of_ble_eq_true rfl⟩) rfl rfl rfl rfl (Nat.le_of_ble_eq_true rfl) dX9_keepWorks_127 ⟨(Nat.le_of_ble_eq_true rfl), (Nat.le_of_ble_eq_true rfl)⟩ (fun _u H locs hq118 hP hD hS => ?_)
                  have hP : va_P g.1 vwCl (List.flatten [bTown g o a pe wo tx x_5 jo tr dy sd f116]) H := hP
                  have hD : va_D A (List.flatten [bTown g o a pe wo tx x_5 jo tr dy sd f116]) := hD
                  refine W.widen (k := 0) (n := 0) (Nat.le_of_ble_eq_true rfl) (Nat.le_of_ble_eq_true rfl) ?_
                  refine W.eq (g2 := F0 m 130 ls []) rfl ?_
                  refine lv_goto (tgt := 166) hx hb dX9_keepWorks_130 (by decide) ?_
                  refine ziinc3 (n' := 1) (a' := 1) (b' := 6) (lv' := fun v9 => [(4, .int v9), (3, .int x_117), (0, .ref o), (1, .null), (2, .int q_1)]) hx hb dX9_keepWorks_166 hl (k := 4) rfl (by decide) (fun _ => rfl) (zaddK (i := x_4.toInt) (j := 1) rfl (by decide) i7.1 n12 (Int.le_refl _) (Int.le_refl _) (by decide)) (fun x_119 ls hx_119 hl => ?_)
                  refine lv_goto (tgt := 10) hx hb dX9_keepWorks_169 (by decide) ?_
                  have hl := lv_sub (l' := [(0, .ref o), (1, .null), (2, .int q_1), (3, .int x_117), (4, .int x_119)]) hl [2, 3, 4, 1, 0] rfl
                  have hP : va_P g.1 vwCl (List.flatten [bTown g o a pe wo tx x_5 jo tr dy sd f116]) H := hP
                  have hD : va_D A (List.flatten [bTown g o a pe wo tx x_5 jo tr dy sd f116]) := hD
                  exact ih10_9 x_117 x_119 x_5 f116 ⟨(Int.le_trans (by decide) hx_119.2.1), hx_119.2.2⟩ rf116 H _ ls (zmK hx_119.1 (by decide) n12 (by decide) hk10_9)  hP hD hS (lv_sub hl [0, 1, 2, 3, 4] rfl)
            · skip
              have c120 : x_86.toInt ≤ x_5.toInt := zle (Int32.not_lt.mp cb9) rfl rfl
              refine lv_aload_n hx hb dX9_keepWorks_54 rfl (lv_at hl 0 rfl) ?_
              refine va_get (D := g.1) (ci := 7) (v := .ref (a 9)) (C := RX9) (T := TX9) (N := 19) hx hb hts izRX9 hown hK hP 0 rfl rfl 17 (by decide) (hts _ k19) (fun _ h9 => h9) rfl dX9_keepWorks_55 ?_
              refine lv_iload hx hb dX9_keepWorks_58 (lv_at hl 4 rfl) ?_
              refine lv_iconst (v := 1) hx hb dX9_keepWorks_60 (by decide) ?_
              refine va_iast hx hb hK hP hD hS 10 0 rfl rfl (zinK (a := 0) (b := 5) i7.1 n12 (by decide)) dX9_keepWorks_61 (fun H locs hP hD hS => ?_)
              obtain ⟨f121, rf121, hP, hD⟩ : ∃ f121 : Nat → Nat → Int32, zZ4 f121 ∧ va_P g.1 vwCl (List.flatten [bTown g o a pe wo tx x_5 jo tr dy sd f121]) H ∧ va_D A (List.flatten [bTown g o a pe wo tx x_5 jo tr dy sd f121]) := ⟨zu f_6 9 (upd (f_6 9) x_4.toNatClampNeg 1), (zZ4_u rf_6 (by decide)), hP, hD⟩
              refine lv_aload_n hx hb dX9_keepWorks_62 rfl (lv_at hl 0 rfl) ?_
              refine lv_dup hx hb dX9_keepWorks_63 rfl ?_
              refine va_get (D := g.1) (ci := 7) (v := .int x_5) (C := RX9) (T := TX9) (N := 19) hx hb hts izRX9 hown hK hP 0 rfl rfl 3 (by decide) (hts _ k4) (fun _ h9 => h9) rfl dX9_keepWorks_64 ?_
              refine lv_aload_n hx hb dX9_keepWorks_67 rfl (lv_at hl 0 rfl) ?_
              refine va_get (D := g.1) (ci := 7) (v := .ref (a 6)) (C := RX9) (T := TX9) (N := 19) hx hb hts izRX9 hown hK hP 0 rfl rfl 14 (by decide) (hts _ k16) (fun _ h9 => h9) rfl dX9_keepWorks_68 ?_
              refine lv_iload hx hb dX9_keepWorks_71 (lv_at hl 4 rfl) ?_
              refine va_iald hx hb hK hP 7 0 rfl rfl (zinK (a := 0) (b := 5) i7.1 n12 (by decide)) dX9_keepWorks_73 ?_
              refine zg (fun x_122 => ?_)
              refine lv_isub hx hb dX9_keepWorks_74 ?_
              refine zg (fun x_123 => ?_)
              refine va_put (D := g.1) (ci := 7) (v := .int x_123) (ty := .int) (C := RX9) (T := TX9) (N := 19) hx hb hts izRX9 tyX9 tyX9_ok nmX9 hown hK hP hD hS 0 rfl rfl 3 (by decide) (hts _ k4) (fun _ h9 => h9) rfl (by decide +kernel) rfl rfl (Nat.le_of_ble_eq_true rfl) dX9_keepWorks_75 (fun H locs hP hD hS => ?_)
              have hP : va_P g.1 vwCl (List.flatten [bTown g o a pe wo tx x_123 jo tr dy sd f121]) H := hP
              have hD : va_D A (List.flatten [bTown g o a pe wo tx x_123 jo tr dy sd f121]) := hD
              refine lv_aload_n hx hb dX9_keepWorks_78 rfl (lv_at hl 0 rfl) ?_
              refine lv_aload_nN hx hb dX9_keepWorks_79 rfl (lv_at hl 1 rfl) ?_
              refine lv_iload hx hb dX9_keepWorks_80 (lv_at hl 4 rfl) ?_
              refine lv_iconst (v := 0) hx hb dX9_keepWorks_82 (by decide) ?_
              refine mcallV' (g := g) (q0 := 0) (ci := 7) (As := [.null, .int x_4, .int 0]) (rest := []) St hK hT hA hP hD hS hl.1 [0] [] rfl rfl rfl (c_writeN l g o a pe wo tx x_123 jo tr dy sd f121 x_4 0 b_pe b_wo rf121) (cwV 3 hts (zgL (zl4 k125 k126 k127 k24) k124) rfl rfl rfl (by decide +kernel) ⟨Nat.le_of_ble_eq_true rfl, Nat.le_of_ble_eq_true rfl⟩) rfl rfl rfl rfl (Nat.le_of_ble_eq_true rfl) dX9_keepWorks_83 ⟨(Nat.le_of_ble_eq_true rfl), (Nat.le_of_ble_eq_true rfl)⟩ (fun _u H locs hq124 hP hD hS => ?_)
              have hP : va_P g.1 vwCl (List.flatten [bTown g o a pe wo tx x_123 jo tr dy sd f121]) H := hP
              have hD : va_D A (List.flatten [bTown g o a pe wo tx x_123 jo tr dy sd f121]) := hD
              refine W.widen (k := 0) (n := 0) (Nat.le_of_ble_eq_true rfl) (Nat.le_of_ble_eq_true rfl) ?_
              refine W.eq (g2 := F0 m 86 ls []) rfl ?_
              refine lv_goto (tgt := 166) hx hb dX9_keepWorks_86 (by decide) ?_
              refine ziinc3 (n' := 1) (a' := 1) (b' := 6) (lv' := fun v9 => [(4, .int v9), (0, .ref o), (1, .null), (2, .int q_1), (3, .int x_3)]) hx hb dX9_keepWorks_166 hl (k := 4) rfl (by decide) (fun _ => rfl) (zaddK (i := x_4.toInt) (j := 1) rfl (by decide) i7.1 n12 (Int.le_refl _) (Int.le_refl _) (by decide)) (fun x_125 ls hx_125 hl => ?_)
              refine lv_goto (tgt := 10) hx hb dX9_keepWorks_169 (by decide) ?_
              have hl := lv_sub (l' := [(0, .ref o), (1, .null), (2, .int q_1), (3, .int x_3), (4, .int x_125)]) hl [1, 2, 3, 4, 0] rfl
              have hP : va_P g.1 vwCl (List.flatten [bTown g o a pe wo tx x_123 jo tr dy sd f121]) H := hP
              have hD : va_D A (List.flatten [bTown g o a pe wo tx x_123 jo tr dy sd f121]) := hD
              exact ih10_9 x_3 x_125 x_123 f121 ⟨(Int.le_trans (by decide) hx_125.2.1), hx_125.2.2⟩ rf121 H _ ls (zmK hx_125.1 (by decide) n12 (by decide) hk10_9)  hP hD hS (lv_sub hl [0, 1, 2, 3, 4] rfl)
  have hP : va_P g.1 vwCl (List.flatten [bTown g o a pe wo tx ch jo tr dy sd f]) H := hP
  have hD : va_D A (List.flatten [bTown g o a pe wo tx ch jo tr dy sd f]) := hD
  exact LP10_8 _ 0 0 ch f (by decide) rf H _ ls (Nat.lt_succ_self _)  hP hD hS (lv_sub hl [0, 1, 2, 3, 4] rfl)
set_option maxRecDepth 100000 in
set_option maxHeartbeats 4000000 in
theorem c_comeBackN (l : Launch) (g : zG) (o : Nat) (a : Nat → Nat) (pe : Int32) (wo : Int32) (tx : Int32) (ch : Int32) (jo : Int32) (tr : Int32) (dy : Int32) (sd : Int32) (f : Nat → Nat → Int32) (tl : Int32) (b_pe : 0 ≤ pe.toInt ∧ pe.toInt ≤ 8) (b_wo : 0 ≤ wo.toInt ∧ wo.toInt ≤ 6) (rf : zZ4 f) : zM' g l yX9_comeBack (Cond.code yX9_comeBack cX9_comeBack 5 none :: zB) ({ frames := 4, cells := 0, slots := 0, locals := 80 } : Room) [.ref o, .int tl, .null] [bTown g o a pe wo tx ch jo tr dy sd f] (fun u : Int32 × (Nat → Nat → Int32) => (fun (sd2 : Int32) (f2 : Nat → Nat → Int32) => none) (u.1) (u.2)) (fun u : Int32 × (Nat → Nat → Int32) => (fun (sd2 : Int32) (f2 : Nat → Nat → Int32) => (zZ4 f2)) (u.1) (u.2)) (fun u : Int32 × (Nat → Nat → Int32) => (fun (sd2 : Int32) (f2 : Nat → Nat → Int32) => [bTown g o a pe wo tx ch jo tr dy sd2 f2]) (u.1) (u.2)) := by
  refine zM'.of (cc := cX9_comeBack) (maxL := 5) (rt := none) (by decide) rfl (Nat.le_of_ble_eq_true rfl) ?_
  intro p e s m args below meth c A ls St hr hlocks hin hK hT hA hP hD hS hl
  obtain ⟨hx, hb, hml, hown, hts⟩ := id St
  have hl : lv_has ls 5 [(0, .ref o), (1, .int tl), (2, .null)] := hl
  refine lv_iconst (v := 0) hx hb dX9_comeBack_0 (by decide) ?_
  refine lv_istore_n (lv' := [(3, .int 0), (0, .ref o), (1, .int tl), (2, .null)]) hx hb dX9_comeBack_1 rfl hl (by decide) rfl (fun ls hl => ?_)
  have hl := lv_sub (l' := [(0, .ref o), (1, .int tl), (2, .null), (3, .int 0)]) hl [1, 2, 3, 0] rfl
  have LP2_5 : ∀ (kf : Nat) (x_1 : Int32) (x_2 : Int32) (f_3 : Nat → Nat → Int32), (0 ≤ x_1.toInt ∧ x_1.toInt ≤ 8) → (zZ4 f_3) → ∀ (H : Heap) (locs : List Loc) (ls : Array Slot), ((9 - x_1.toInt).toNat) < kf → va_P g.1 vwCl (List.flatten [bTown g o a pe wo tx ch jo tr dy x_2 f_3]) H → va_D A (List.flatten [bTown g o a pe wo tx ch jo tr dy x_2 f_3]) → va_S A s.heap H locs → lv_has ls 5 [(0, .ref o), (1, .int tl), (2, .null), (3, .int x_1)] → W p l e ({ frames := 4, cells := 0, slots := 0, locals := 80 } : Room) s m args below meth c H locs (0) (0) (zF g (fun u : Int32 × (Nat → Nat → Int32) => (fun (sd2 : Int32) (f2 : Nat → Nat → Int32) => none) (u.1) (u.2)) (fun u : Int32 × (Nat → Nat → Int32) => (fun (sd2 : Int32) (f2 : Nat → Nat → Int32) => (zZ4 f2)) (u.1) (u.2)) (fun u : Int32 × (Nat → Nat → Int32) => (fun (sd2 : Int32) (f2 : Nat → Nat → Int32) => [bTown g o a pe wo tx ch jo tr dy sd2 f2]) (u.1) (u.2)) ({ frames := 4, cells := 0, slots := 0, locals := 80 } : Room) below args s A) (F0 m 2 ls []) := by
    intro kf
    induction kf with
    | zero => intro x_1 x_2 f_3 i4 rf_3 H locs ls hk; exact absurd hk (Nat.not_lt_zero _)
    | succ kf ih2_6 =>
      intro x_1 x_2 f_3 i4 rf_3 H locs ls hk2_6 hP hD hS hl
      refine lv_iload_n hx hb dX9_comeBack_2 rfl (lv_at hl 3 rfl) ?_
      refine lv_aload_n hx hb dX9_comeBack_3 rfl (lv_at hl 0 rfl) ?_
      refine va_get (D := g.1) (ci := 7) (v := .int pe) (C := RX9) (T := TX9) (N := 19) hx hb hts izRX9 hown hK hP 0 rfl rfl 0 (by decide) (hts _ k31) (fun _ h9 => h9) rfl dX9_comeBack_4 ?_
      refine lv_icmp_ge (tgt := 92) hx hb dX9_comeBack_7 (by decide) (fun cb9 => ?_) (fun cb9 => ?_)
      · skip
        have c7 : pe.toInt ≤ x_1.toInt := zle cb9 rfl rfl
        have hP : va_P g.1 vwCl (List.flatten [bTown g o a pe wo tx ch jo tr dy x_2 f_3]) H := hP
        have hD : va_D A (List.flatten [bTown g o a pe wo tx ch jo tr dy x_2 f_3]) := hD
        exact mret_v hx hb hr hlocks hS (Nat.le_of_ble_eq_true rfl) (Nat.le_of_ble_eq_true rfl) dX9_comeBack_92 (x_2, f_3) rfl (show (zZ4 f_3) from rf_3) hP hD
      · skip
        have c8 : x_1.toInt < pe.toInt := zlti (Int32.not_le.mp cb9) rfl rfl
        have n9 : x_1.toInt ≤ 7 := zL1 (b := 8) c8 b_pe.2 (by decide)
        have n10 : 1 ≤ pe.toInt := zL2 (a := 0) c8 i4.1 (by decide)
        refine lv_aload_n hx hb dX9_comeBack_10 rfl (lv_at hl 0 rfl) ?_
        refine lv_iload_n hx hb dX9_comeBack_11 rfl (lv_at hl 3 rfl) ?_
        refine mcallV' (g := g) (q0 := 0) (ci := 7) (As := [.int x_1]) (rest := []) St hK hT hA hP hD hS hl.1 [0] [] rfl rfl rfl (c_isHere l g o a pe wo tx ch jo tr dy x_2 f_3 x_1 (⟨i4.1, n9⟩)) (cwV 1 hts (zgL (zl4 k53 k54 k55 k24) k51) rfl rfl rfl (by decide +kernel) ⟨Nat.le_of_ble_eq_true rfl, Nat.le_of_ble_eq_true rfl⟩) rfl rfl rfl rfl (Nat.le_of_ble_eq_true rfl) dX9_comeBack_12 ⟨(Nat.le_of_ble_eq_true rfl), (Nat.le_of_ble_eq_true rfl)⟩ (fun q_11 H locs hq12 hP hD hS => ?_)
        replace hq12 : (q_11 = 0 ∨ q_11 = 1) := hq12
        have hP : va_P g.1 vwCl (List.flatten [bTown g o a pe wo tx ch jo tr dy x_2 f_3]) H := hP
        have hD : va_D A (List.flatten [bTown g o a pe wo tx ch jo tr dy x_2 f_3]) := hD
        refine W.widen (k := 0) (n := 0) (Nat.le_of_ble_eq_true rfl) (Nat.le_of_ble_eq_true rfl) ?_
        refine W.eq (g2 := F0 m 15 ls [.int q_11]) rfl ?_
        rcases hq12 with rfl | rfl
        · skip
          refine lv_if_ne (tgt := 86) hx hb dX9_comeBack_15 (by decide) (fun c13 => absurd (by decide) c13) (fun _ => ?_)
          refine lv_aload_n hx hb dX9_comeBack_18 rfl (lv_at hl 0 rfl) ?_
          refine va_get (D := g.1) (ci := 7) (v := .ref (a 3)) (C := RX9) (T := TX9) (N := 19) hx hb hts izRX9 hown hK hP 0 rfl rfl 11 (by decide) (hts _ k12) (fun _ h9 => h9) rfl dX9_comeBack_19 ?_
          refine lv_iload_n hx hb dX9_comeBack_22 rfl (lv_at hl 3 rfl) ?_
          refine va_iald hx hb hK hP 4 0 rfl rfl (zinK (a := 0) (b := 7) i4.1 n9 (by decide)) dX9_comeBack_23 ?_
          refine zg (fun x_14 => ?_)
          refine lv_aload_n hx hb dX9_comeBack_24 rfl (lv_at hl 0 rfl) ?_
          refine va_get (D := g.1) (ci := 7) (v := .int dy) (C := RX9) (T := TX9) (N := 19) hx hb hts izRX9 hown hK hP 0 rfl rfl 6 (by decide) (hts _ k34) (fun _ h9 => h9) rfl dX9_comeBack_25 ?_
          refine lv_icmp_gt (tgt := 86) hx hb dX9_comeBack_28 (by decide) (fun cb9 => ?_) (fun cb9 => ?_)
          · skip
            have c15 : dy.toInt < x_14.toInt := zlti cb9 rfl rfl
            refine ziinc3 (n' := 1) (a' := 1) (b' := 8) (lv' := fun v9 => [(3, .int v9), (0, .ref o), (1, .int tl), (2, .null)]) hx hb dX9_comeBack_86 hl (k := 3) rfl (by decide) (fun _ => rfl) (zaddK (i := x_1.toInt) (j := 1) rfl (by decide) i4.1 n9 (Int.le_refl _) (Int.le_refl _) (by decide)) (fun x_16 ls hx_16 hl => ?_)
            refine lv_goto (tgt := 2) hx hb dX9_comeBack_89 (by decide) ?_
            have hl := lv_sub (l' := [(0, .ref o), (1, .int tl), (2, .null), (3, .int x_16)]) hl [1, 2, 3, 0] rfl
            have hP : va_P g.1 vwCl (List.flatten [bTown g o a pe wo tx ch jo tr dy x_2 f_3]) H := hP
            have hD : va_D A (List.flatten [bTown g o a pe wo tx ch jo tr dy x_2 f_3]) := hD
            exact ih2_6 x_16 x_2 f_3 ⟨(Int.le_trans (by decide) hx_16.2.1), hx_16.2.2⟩ rf_3 H _ ls (zmK hx_16.1 (by decide) n9 (by decide) hk2_6)  hP hD hS (lv_sub hl [0, 1, 2, 3] rfl)
          · skip
            have c17 : x_14.toInt ≤ dy.toInt := zle (Int32.not_lt.mp cb9) rfl rfl
            refine lv_aload_n hx hb dX9_comeBack_31 rfl (lv_at hl 0 rfl) ?_
            refine va_get (D := g.1) (ci := 7) (v := .ref (a 3)) (C := RX9) (T := TX9) (N := 19) hx hb hts izRX9 hown hK hP 0 rfl rfl 11 (by decide) (hts _ k12) (fun _ h9 => h9) rfl dX9_comeBack_32 ?_
            refine lv_iload_n hx hb dX9_comeBack_35 rfl (lv_at hl 3 rfl) ?_
            refine lv_iconst (v := (-1)) hx hb dX9_comeBack_36 (by decide) ?_
            refine va_iast hx hb hK hP hD hS 4 0 rfl rfl (zinK (a := 0) (b := 7) i4.1 n9 (by decide)) dX9_comeBack_37 (fun H locs hP hD hS => ?_)
            obtain ⟨f18, rf18, hP, hD⟩ : ∃ f18 : Nat → Nat → Int32, zZ4 f18 ∧ va_P g.1 vwCl (List.flatten [bTown g o a pe wo tx ch jo tr dy x_2 f18]) H ∧ va_D A (List.flatten [bTown g o a pe wo tx ch jo tr dy x_2 f18]) := ⟨zu f_3 3 (upd (f_3 3) x_1.toNatClampNeg (-1)), (zZ4_u rf_3 (by decide)), hP, hD⟩
            refine lv_iload_n hx hb dX9_comeBack_38 rfl (lv_at hl 1 rfl) ?_
            refine lv_if_eq (tgt := 86) hx hb dX9_comeBack_39 (by decide) (fun cb9 => ?_) (fun cb9 => ?_)
            · skip
              have c19 : tl.toInt = 0 := zeq cb9 rfl (by decide)
              have n20 : 0 ≤ tl.toInt := Int.le_trans (Int.le_refl _) (Int.le_of_eq c19.symm)
              have n21 : tl.toInt ≤ 0 := Int.le_trans (Int.le_of_eq c19) (Int.le_refl _)
              refine ziinc3 (n' := 1) (a' := 1) (b' := 8) (lv' := fun v9 => [(3, .int v9), (0, .ref o), (1, .int tl), (2, .null)]) hx hb dX9_comeBack_86 hl (k := 3) rfl (by decide) (fun _ => rfl) (zaddK (i := x_1.toInt) (j := 1) rfl (by decide) i4.1 n9 (Int.le_refl _) (Int.le_refl _) (by decide)) (fun x_22 ls hx_22 hl => ?_)
              refine lv_goto (tgt := 2) hx hb dX9_comeBack_89 (by decide) ?_
              have hl := lv_sub (l' := [(0, .ref o), (1, .int tl), (2, .null), (3, .int x_22)]) hl [1, 2, 3, 0] rfl
              have hP : va_P g.1 vwCl (List.flatten [bTown g o a pe wo tx ch jo tr dy x_2 f18]) H := hP
              have hD : va_D A (List.flatten [bTown g o a pe wo tx ch jo tr dy x_2 f18]) := hD
              exact ih2_6 x_22 x_2 f18 ⟨(Int.le_trans (by decide) hx_22.2.1), hx_22.2.2⟩ rf18 H _ ls (zmK hx_22.1 (by decide) n9 (by decide) hk2_6)  hP hD hS (lv_sub hl [0, 1, 2, 3] rfl)
            · skip
              have c23 : ¬ tl.toInt = 0 := zne cb9 rfl (by decide)
              refine lv_aload_n hx hb dX9_comeBack_42 rfl (lv_at hl 0 rfl) ?_
              refine mcallV' (g := g) (q0 := 0) (ci := 7) (As := []) (rest := []) St hK hT hA hP hD hS hl.1 [0] [] rfl rfl rfl (c_draw l g o a pe wo tx ch jo tr dy x_2 f18 ) (cwV 0 hts (zgL (zl4 k135 k136 k137 k24) k129) rfl rfl rfl (by decide +kernel) ⟨Nat.le_of_ble_eq_true rfl, Nat.le_of_ble_eq_true rfl⟩) rfl rfl rfl rfl (Nat.le_of_ble_eq_true rfl) dX9_comeBack_43 ⟨(Nat.le_of_ble_eq_true rfl), (Nat.le_of_ble_eq_true rfl)⟩ (fun u_ H locs hq26 hP hD hS => ?_)
              obtain ⟨sd2_24, q_25⟩ := u_
              have hP : va_P g.1 vwCl (List.flatten [bTown g o a pe wo tx ch jo tr dy sd2_24 f18]) H := hP
              have hD : va_D A (List.flatten [bTown g o a pe wo tx ch jo tr dy sd2_24 f18]) := hD
              refine W.widen (k := 0) (n := 0) (Nat.le_of_ble_eq_true rfl) (Nat.le_of_ble_eq_true rfl) ?_
              refine W.eq (g2 := F0 m 46 ls [.int q_25]) rfl ?_
              refine lv_bipush (v := 100) hx hb dX9_comeBack_46 (by decide) ?_
              refine lv_irem hx hb dX9_comeBack_48 (by decide) ?_
              refine zg (fun x_27 => ?_)
              refine lv_aload_n hx hb dX9_comeBack_49 rfl (lv_at hl 0 rfl) ?_
              refine va_get (D := g.1) (ci := 7) (v := .int tr) (C := RX9) (T := TX9) (N := 19) hx hb hts izRX9 hown hK hP 0 rfl rfl 5 (by decide) (hts _ k6) (fun _ h9 => h9) rfl dX9_comeBack_50 ?_
              refine lv_icmp_ge (tgt := 60) hx hb dX9_comeBack_53 (by decide) (fun cb9 => ?_) (fun cb9 => ?_)
              · skip
                have c28 : tr.toInt ≤ x_27.toInt := zle cb9 rfl rfl
                refine lv_iconst (v := 0) hx hb dX9_comeBack_60 (by decide) ?_
                refine lv_istore (lv' := [(4, .int 0), (0, .ref o), (1, .int tl), (2, .null), (3, .int x_1)]) hx hb dX9_comeBack_61 hl (by decide) rfl (fun ls hl => ?_)
                refine lv_aload_n hx hb dX9_comeBack_63 rfl (lv_at hl 1 rfl) ?_
                refine lv_iload_n hx hb dX9_comeBack_64 rfl (lv_at hl 4 rfl) ?_
                refine lv_iload hx hb dX9_comeBack_65 (lv_at hl 0 rfl) ?_
                refine mcallV' (g := g) (q0 := 0) (ci := 7) (As := [.int x_1, .int 0]) (rest := []) St hK hT hA hP hD hS hl.1 [0] [] rfl rfl rfl (c_spread l g o a pe wo tx ch jo tr dy sd2_24 f18 x_1 0 b_pe b_wo rf18 (⟨i4.1, n9⟩)) (cwV 2 hts (zgL (zl4 k138 k139 k140 k24) k134) rfl rfl rfl (by decide +kernel) ⟨Nat.le_of_ble_eq_true rfl, Nat.le_of_ble_eq_true rfl⟩) rfl rfl rfl rfl (Nat.le_of_ble_eq_true rfl) dX9_comeBack_67 ⟨(Nat.le_of_ble_eq_true rfl), (Nat.le_of_ble_eq_true rfl)⟩ (fun f2_29 H locs hq30 hP hD hS => ?_)
                replace hq30 : (zZ4 f2_29) := hq30
                have hP : va_P g.1 vwCl (List.flatten [bTown g o a pe wo tx ch jo tr dy sd2_24 f2_29]) H := hP
                have hD : va_D A (List.flatten [bTown g o a pe wo tx ch jo tr dy sd2_24 f2_29]) := hD
                refine W.widen (k := 0) (n := 0) (Nat.le_of_ble_eq_true rfl) (Nat.le_of_ble_eq_true rfl) ?_
                refine W.eq (g2 := F0 m 70 ls []) rfl ?_
                have rf2_29 := hq30; clear hq30
                refine lv_aload_n hx hb dX9_comeBack_70 rfl (lv_at hl 1 rfl) ?_
                refine lv_aload_nN hx hb dX9_comeBack_71 rfl (lv_at hl 3 rfl) ?_
                refine lv_iload_n hx hb dX9_comeBack_72 rfl (lv_at hl 4 rfl) ?_
                refine lv_iload hx hb dX9_comeBack_73 (lv_at hl 0 rfl) ?_
                refine lv_if_eq (tgt := 82) hx hb dX9_comeBack_75 (by decide) (fun _ => ?_) (fun c31 => absurd (by decide) c31)
                refine lv_iconst (v := 3) hx hb dX9_comeBack_82 (by decide) ?_
                refine mcallV' (g := g) (q0 := 0) (ci := 7) (As := [.null, .int x_1, .int 3]) (rest := []) St hK hT hA hP hD hS hl.1 [0] [] rfl rfl rfl (c_writeN l g o a pe wo tx ch jo tr dy sd2_24 f2_29 x_1 3 b_pe b_wo rf2_29) (cwV 3 hts (zgL (zl4 k125 k126 k127 k24) k124) rfl rfl rfl (by decide +kernel) ⟨Nat.le_of_ble_eq_true rfl, Nat.le_of_ble_eq_true rfl⟩) rfl rfl rfl rfl (Nat.le_of_ble_eq_true rfl) dX9_comeBack_83 ⟨(Nat.le_of_ble_eq_true rfl), (Nat.le_of_ble_eq_true rfl)⟩ (fun _u H locs hq32 hP hD hS => ?_)
                have hP : va_P g.1 vwCl (List.flatten [bTown g o a pe wo tx ch jo tr dy sd2_24 f2_29]) H := hP
                have hD : va_D A (List.flatten [bTown g o a pe wo tx ch jo tr dy sd2_24 f2_29]) := hD
                refine W.widen (k := 0) (n := 0) (Nat.le_of_ble_eq_true rfl) (Nat.le_of_ble_eq_true rfl) ?_
                refine W.eq (g2 := F0 m 86 ls []) rfl ?_
                refine ziinc3 (n' := 1) (a' := 1) (b' := 8) (lv' := fun v9 => [(3, .int v9), (4, .int 0), (0, .ref o), (1, .int tl), (2, .null)]) hx hb dX9_comeBack_86 hl (k := 4) rfl (by decide) (fun _ => rfl) (zaddK (i := x_1.toInt) (j := 1) rfl (by decide) i4.1 n9 (Int.le_refl _) (Int.le_refl _) (by decide)) (fun x_33 ls hx_33 hl => ?_)
                refine lv_goto (tgt := 2) hx hb dX9_comeBack_89 (by decide) ?_
                have hl := lv_sub (l' := [(0, .ref o), (1, .int tl), (2, .null), (3, .int x_33), (4, .int 0)]) hl [2, 3, 4, 0, 1] rfl
                have hP : va_P g.1 vwCl (List.flatten [bTown g o a pe wo tx ch jo tr dy sd2_24 f2_29]) H := hP
                have hD : va_D A (List.flatten [bTown g o a pe wo tx ch jo tr dy sd2_24 f2_29]) := hD
                exact ih2_6 x_33 sd2_24 f2_29 ⟨(Int.le_trans (by decide) hx_33.2.1), hx_33.2.2⟩ rf2_29 H _ ls (zmK hx_33.1 (by decide) n9 (by decide) hk2_6)  hP hD hS (lv_sub hl [0, 1, 2, 3] rfl)
              · skip
                have c34 : x_27.toInt < tr.toInt := zlti (Int32.not_le.mp cb9) rfl rfl
                refine lv_iconst (v := 1) hx hb dX9_comeBack_56 (by decide) ?_
                refine lv_goto (tgt := 61) hx hb dX9_comeBack_57 (by decide) ?_
                refine lv_istore (lv' := [(4, .int 1), (0, .ref o), (1, .int tl), (2, .null), (3, .int x_1)]) hx hb dX9_comeBack_61 hl (by decide) rfl (fun ls hl => ?_)
                refine lv_aload_n hx hb dX9_comeBack_63 rfl (lv_at hl 1 rfl) ?_
                refine lv_iload_n hx hb dX9_comeBack_64 rfl (lv_at hl 4 rfl) ?_
                refine lv_iload hx hb dX9_comeBack_65 (lv_at hl 0 rfl) ?_
                refine mcallV' (g := g) (q0 := 0) (ci := 7) (As := [.int x_1, .int 1]) (rest := []) St hK hT hA hP hD hS hl.1 [0] [] rfl rfl rfl (c_spread l g o a pe wo tx ch jo tr dy sd2_24 f18 x_1 1 b_pe b_wo rf18 (⟨i4.1, n9⟩)) (cwV 2 hts (zgL (zl4 k138 k139 k140 k24) k134) rfl rfl rfl (by decide +kernel) ⟨Nat.le_of_ble_eq_true rfl, Nat.le_of_ble_eq_true rfl⟩) rfl rfl rfl rfl (Nat.le_of_ble_eq_true rfl) dX9_comeBack_67 ⟨(Nat.le_of_ble_eq_true rfl), (Nat.le_of_ble_eq_true rfl)⟩ (fun f2_35 H locs hq36 hP hD hS => ?_)
                replace hq36 : (zZ4 f2_35) := hq36
                have hP : va_P g.1 vwCl (List.flatten [bTown g o a pe wo tx ch jo tr dy sd2_24 f2_35]) H := hP
                have hD : va_D A (List.flatten [bTown g o a pe wo tx ch jo tr dy sd2_24 f2_35]) := hD
                refine W.widen (k := 0) (n := 0) (Nat.le_of_ble_eq_true rfl) (Nat.le_of_ble_eq_true rfl) ?_
                refine W.eq (g2 := F0 m 70 ls []) rfl ?_
                have rf2_35 := hq36; clear hq36
                refine lv_aload_n hx hb dX9_comeBack_70 rfl (lv_at hl 1 rfl) ?_
                refine lv_aload_nN hx hb dX9_comeBack_71 rfl (lv_at hl 3 rfl) ?_
                refine lv_iload_n hx hb dX9_comeBack_72 rfl (lv_at hl 4 rfl) ?_
                refine lv_iload hx hb dX9_comeBack_73 (lv_at hl 0 rfl) ?_
                refine lv_if_eq (tgt := 82) hx hb dX9_comeBack_75 (by decide) (fun c37 => absurd c37 (by decide)) (fun _ => ?_)
                refine lv_iconst (v := 2) hx hb dX9_comeBack_78 (by decide) ?_
                refine lv_goto (tgt := 83) hx hb dX9_comeBack_79 (by decide) ?_
                refine mcallV' (g := g) (q0 := 0) (ci := 7) (As := [.null, .int x_1, .int 2]) (rest := []) St hK hT hA hP hD hS hl.1 [0] [] rfl rfl rfl (c_writeN l g o a pe wo tx ch jo tr dy sd2_24 f2_35 x_1 2 b_pe b_wo rf2_35) (cwV 3 hts (zgL (zl4 k125 k126 k127 k24) k124) rfl rfl rfl (by decide +kernel) ⟨Nat.le_of_ble_eq_true rfl, Nat.le_of_ble_eq_true rfl⟩) rfl rfl rfl rfl (Nat.le_of_ble_eq_true rfl) dX9_comeBack_83 ⟨(Nat.le_of_ble_eq_true rfl), (Nat.le_of_ble_eq_true rfl)⟩ (fun _u H locs hq38 hP hD hS => ?_)
                have hP : va_P g.1 vwCl (List.flatten [bTown g o a pe wo tx ch jo tr dy sd2_24 f2_35]) H := hP
                have hD : va_D A (List.flatten [bTown g o a pe wo tx ch jo tr dy sd2_24 f2_35]) := hD
                refine W.widen (k := 0) (n := 0) (Nat.le_of_ble_eq_true rfl) (Nat.le_of_ble_eq_true rfl) ?_
                refine W.eq (g2 := F0 m 86 ls []) rfl ?_
                refine ziinc3 (n' := 1) (a' := 1) (b' := 8) (lv' := fun v9 => [(3, .int v9), (4, .int 1), (0, .ref o), (1, .int tl), (2, .null)]) hx hb dX9_comeBack_86 hl (k := 4) rfl (by decide) (fun _ => rfl) (zaddK (i := x_1.toInt) (j := 1) rfl (by decide) i4.1 n9 (Int.le_refl _) (Int.le_refl _) (by decide)) (fun x_39 ls hx_39 hl => ?_)
                refine lv_goto (tgt := 2) hx hb dX9_comeBack_89 (by decide) ?_
                have hl := lv_sub (l' := [(0, .ref o), (1, .int tl), (2, .null), (3, .int x_39), (4, .int 1)]) hl [2, 3, 4, 0, 1] rfl
                have hP : va_P g.1 vwCl (List.flatten [bTown g o a pe wo tx ch jo tr dy sd2_24 f2_35]) H := hP
                have hD : va_D A (List.flatten [bTown g o a pe wo tx ch jo tr dy sd2_24 f2_35]) := hD
                exact ih2_6 x_39 sd2_24 f2_35 ⟨(Int.le_trans (by decide) hx_39.2.1), hx_39.2.2⟩ rf2_35 H _ ls (zmK hx_39.1 (by decide) n9 (by decide) hk2_6)  hP hD hS (lv_sub hl [0, 1, 2, 3] rfl)
        · skip
          refine lv_if_ne (tgt := 86) hx hb dX9_comeBack_15 (by decide) (fun _ => ?_) (fun c40 => absurd c40 (by decide))
          refine ziinc3 (n' := 1) (a' := 1) (b' := 8) (lv' := fun v9 => [(3, .int v9), (0, .ref o), (1, .int tl), (2, .null)]) hx hb dX9_comeBack_86 hl (k := 3) rfl (by decide) (fun _ => rfl) (zaddK (i := x_1.toInt) (j := 1) rfl (by decide) i4.1 n9 (Int.le_refl _) (Int.le_refl _) (by decide)) (fun x_41 ls hx_41 hl => ?_)
          refine lv_goto (tgt := 2) hx hb dX9_comeBack_89 (by decide) ?_
          have hl := lv_sub (l' := [(0, .ref o), (1, .int tl), (2, .null), (3, .int x_41)]) hl [1, 2, 3, 0] rfl
          have hP : va_P g.1 vwCl (List.flatten [bTown g o a pe wo tx ch jo tr dy x_2 f_3]) H := hP
          have hD : va_D A (List.flatten [bTown g o a pe wo tx ch jo tr dy x_2 f_3]) := hD
          exact ih2_6 x_41 x_2 f_3 ⟨(Int.le_trans (by decide) hx_41.2.1), hx_41.2.2⟩ rf_3 H _ ls (zmK hx_41.1 (by decide) n9 (by decide) hk2_6)  hP hD hS (lv_sub hl [0, 1, 2, 3] rfl)
  have hP : va_P g.1 vwCl (List.flatten [bTown g o a pe wo tx ch jo tr dy sd f]) s.heap := hP
  have hD : va_D A (List.flatten [bTown g o a pe wo tx ch jo tr dy sd f]) := hD
  exact LP2_5 _ 0 sd f (by decide) rf s.heap _ ls (Nat.lt_succ_self _)  hP hD hS (lv_sub hl [0, 1, 2, 3] rfl)
set_option maxRecDepth 100000 in
set_option maxHeartbeats 4000000 in
theorem c_passDayN (l : Launch) (g : zG) (o : Nat) (a : Nat → Nat) (pe : Int32) (wo : Int32) (tx : Int32) (ch : Int32) (jo : Int32) (tr : Int32) (dy : Int32) (sd : Int32) (f : Nat → Nat → Int32) (lo : Nat) (lc : Nat) (lz : Int32) (ll : Int32) (lm : Int32) (lg : Int32) (ld : Int32) (fc : Nat → Int32) (tl : Int32) (b_pe : 0 ≤ pe.toInt ∧ pe.toInt ≤ 8) (b_wo : 0 ≤ wo.toInt ∧ wo.toInt ≤ 6) (rf : zZ4 f) (b_lz : 0 ≤ lz.toInt ∧ lz.toInt ≤ 400) : zM' g l yX9_passDay (Cond.code yX9_passDay cX9_passDay 5 (some .int) :: zB) ({ frames := 5, cells := 0, slots := 0, locals := 104 } : Room) [.ref o, .ref lo, .int tl, .null] [bTown g o a pe wo tx ch jo tr dy sd f, bLaw g lo lc lz ll lm lg ld fc] (fun u : Int32 × Int32 × Int32 × (Nat → Nat → Int32) × Int32 × Int32 × Int32 × Int32 => (fun (ch2 : Int32) (dy2 : Int32) (sd2 : Int32) (f2 : Nat → Nat → Int32) (lm2 : Int32) (lg2 : Int32) (ld2 : Int32) (q : Int32) => some (.int q)) (u.1) (u.2.1) (u.2.2.1) (u.2.2.2.1) (u.2.2.2.2.1) (u.2.2.2.2.2.1) (u.2.2.2.2.2.2.1) (u.2.2.2.2.2.2.2)) (fun u : Int32 × Int32 × Int32 × (Nat → Nat → Int32) × Int32 × Int32 × Int32 × Int32 => (fun (ch2 : Int32) (dy2 : Int32) (sd2 : Int32) (f2 : Nat → Nat → Int32) (lm2 : Int32) (lg2 : Int32) (ld2 : Int32) (q : Int32) => (zZ4 f2)) (u.1) (u.2.1) (u.2.2.1) (u.2.2.2.1) (u.2.2.2.2.1) (u.2.2.2.2.2.1) (u.2.2.2.2.2.2.1) (u.2.2.2.2.2.2.2)) (fun u : Int32 × Int32 × Int32 × (Nat → Nat → Int32) × Int32 × Int32 × Int32 × Int32 => (fun (ch2 : Int32) (dy2 : Int32) (sd2 : Int32) (f2 : Nat → Nat → Int32) (lm2 : Int32) (lg2 : Int32) (ld2 : Int32) (q : Int32) => [bTown g o a pe wo tx ch2 jo tr dy2 sd2 f2, bLaw g lo lc lz ll lm2 lg2 ld2 fc]) (u.1) (u.2.1) (u.2.2.1) (u.2.2.2.1) (u.2.2.2.2.1) (u.2.2.2.2.2.1) (u.2.2.2.2.2.2.1) (u.2.2.2.2.2.2.2)) := by
  refine zM'.of (cc := cX9_passDay) (maxL := 5) (rt := (some .int)) (by decide) rfl (Nat.le_of_ble_eq_true rfl) ?_
  intro p e s m args below meth c A ls St hr hlocks hin hK hT hA hP hD hS hl
  obtain ⟨hx, hb, hml, hown, hts⟩ := id St
  have hl : lv_has ls 5 [(0, .ref o), (1, .ref lo), (2, .int tl), (3, .null)] := hl
  refine lv_aload_n hx hb dX9_passDay_0 rfl (lv_at hl 0 rfl) ?_
  refine lv_aload_n hx hb dX9_passDay_1 rfl (lv_at hl 1 rfl) ?_
  refine mcallV' (g := g) (q0 := 0) (ci := 7) (As := [.ref lo]) (rest := []) St hK hT hA hP hD hS hl.1 [0, 1] [] rfl rfl rfl (c_showTo l g o a pe wo tx ch jo tr dy sd f lo lc lz ll lm lg ld fc b_pe b_wo rf) (cwV 1 hts (zgL (zl4 k142 k143 k144 k24) k86) rfl rfl rfl (by decide +kernel) ⟨Nat.le_of_ble_eq_true rfl, Nat.le_of_ble_eq_true rfl⟩) rfl rfl rfl rfl (Nat.le_of_ble_eq_true rfl) dX9_passDay_2 ⟨(Nat.le_of_ble_eq_true rfl), (Nat.le_of_ble_eq_true rfl)⟩ (fun u_ H locs hq4 hP hD hS => ?_)
  obtain ⟨lm2_1, lg2_2, ld2_3⟩ := u_
  have hP : va_P g.1 vwCl (List.flatten [bTown g o a pe wo tx ch jo tr dy sd f, bLaw g lo lc lz ll lm2_1 lg2_2 ld2_3 fc]) H := hP
  have hD : va_D A (List.flatten [bTown g o a pe wo tx ch jo tr dy sd f, bLaw g lo lc lz ll lm2_1 lg2_2 ld2_3 fc]) := hD
  refine W.widen (k := 0) (n := 0) (Nat.le_of_ble_eq_true rfl) (Nat.le_of_ble_eq_true rfl) ?_
  refine W.eq (g2 := F0 m 5 ls []) rfl ?_
  refine lv_aload_n hx hb dX9_passDay_5 rfl (lv_at hl 0 rfl) ?_
  refine lv_aload_n hx hb dX9_passDay_6 rfl (lv_at hl 1 rfl) ?_
  refine mcallV' (g := g) (q0 := 0) (ci := 7) (As := [.ref lo]) (rest := []) St hK hT hA hP hD hS hl.1 [0, 1] [] rfl rfl rfl (c_turnBeliefs l g o a pe wo tx ch jo tr dy sd f lo lc lz ll lm2_1 lg2_2 ld2_3 fc b_pe b_wo rf b_lz) (cwV 1 hts (zgL (zl4 k145 k146 k147 k24) k114) rfl rfl rfl (by decide +kernel) ⟨Nat.le_of_ble_eq_true rfl, Nat.le_of_ble_eq_true rfl⟩) rfl rfl rfl rfl (Nat.le_of_ble_eq_true rfl) dX9_passDay_7 ⟨(Nat.le_of_ble_eq_true rfl), (Nat.le_of_ble_eq_true rfl)⟩ (fun f2_5 H locs hq6 hP hD hS => ?_)
  replace hq6 : (zZ4 f2_5) := hq6
  have hP : va_P g.1 vwCl (List.flatten [bTown g o a pe wo tx ch jo tr dy sd f2_5, bLaw g lo lc lz ll lm2_1 lg2_2 ld2_3 fc]) H := hP
  have hD : va_D A (List.flatten [bTown g o a pe wo tx ch jo tr dy sd f2_5, bLaw g lo lc lz ll lm2_1 lg2_2 ld2_3 fc]) := hD
  refine W.widen (k := 0) (n := 0) (Nat.le_of_ble_eq_true rfl) (Nat.le_of_ble_eq_true rfl) ?_
  refine W.eq (g2 := F0 m 10 ls []) rfl ?_
  have rf2_5 := hq6; clear hq6
  refine lv_aload_n hx hb dX9_passDay_10 rfl (lv_at hl 0 rfl) ?_
  refine lv_aload_nN hx hb dX9_passDay_11 rfl (lv_at hl 3 rfl) ?_
  refine mcallV' (g := g) (q0 := 0) (ci := 7) (As := [.null]) (rest := []) St hK hT hA hP hD hS hl.1 [0] [1] rfl rfl rfl (c_keepWorksN l g o a pe wo tx ch jo tr dy sd f2_5 b_pe b_wo rf2_5) (cwV 1 hts (zgL (zl4 k148 k149 k150 k24) k128) rfl rfl rfl (by decide +kernel) ⟨Nat.le_of_ble_eq_true rfl, Nat.le_of_ble_eq_true rfl⟩) rfl rfl rfl rfl (Nat.le_of_ble_eq_true rfl) dX9_passDay_12 ⟨(Nat.le_of_ble_eq_true rfl), (Nat.le_of_ble_eq_true rfl)⟩ (fun u_ H locs hq10 hP hD hS => ?_)
  obtain ⟨ch2_7, f2_8, q_9⟩ := u_
  replace hq10 : (zZ4 f2_8) := hq10
  have hP : va_P g.1 vwCl (List.flatten [bLaw g lo lc lz ll lm2_1 lg2_2 ld2_3 fc, bTown g o a pe wo tx ch2_7 jo tr dy sd f2_8]) H := hP
  have hD : va_D A (List.flatten [bLaw g lo lc lz ll lm2_1 lg2_2 ld2_3 fc, bTown g o a pe wo tx ch2_7 jo tr dy sd f2_8]) := hD
  refine W.widen (k := 0) (n := 0) (Nat.le_of_ble_eq_true rfl) (Nat.le_of_ble_eq_true rfl) ?_
  refine W.eq (g2 := F0 m 15 ls [.int q_9]) rfl ?_
  have rf2_8 := hq10; clear hq10
  refine lv_istore (lv' := [(4, .int q_9), (0, .ref o), (1, .ref lo), (2, .int tl), (3, .null)]) hx hb dX9_passDay_15 hl (by decide) rfl (fun ls hl => ?_)
  refine lv_aload_n hx hb dX9_passDay_17 rfl (lv_at hl 1 rfl) ?_
  refine lv_iload_n hx hb dX9_passDay_18 rfl (lv_at hl 3 rfl) ?_
  refine lv_aload_nN hx hb dX9_passDay_19 rfl (lv_at hl 4 rfl) ?_
  refine mcallV' (g := g) (q0 := 0) (ci := 7) (As := [.int tl, .null]) (rest := []) St hK hT hA hP hD hS hl.1 [1] [0] rfl rfl rfl (c_comeBackN l g o a pe wo tx ch2_7 jo tr dy sd f2_8 tl b_pe b_wo rf2_8) (cwV 2 hts (zgL (zl4 k151 k152 k153 k24) k141) rfl rfl rfl (by decide +kernel) ⟨Nat.le_of_ble_eq_true rfl, Nat.le_of_ble_eq_true rfl⟩) rfl rfl rfl rfl (Nat.le_of_ble_eq_true rfl) dX9_passDay_20 ⟨(Nat.le_of_ble_eq_true rfl), (Nat.le_of_ble_eq_true rfl)⟩ (fun u_ H locs hq13 hP hD hS => ?_)
  obtain ⟨sd2_11, f2_12⟩ := u_
  replace hq13 : (zZ4 f2_12) := hq13
  have hP : va_P g.1 vwCl (List.flatten [bLaw g lo lc lz ll lm2_1 lg2_2 ld2_3 fc, bTown g o a pe wo tx ch2_7 jo tr dy sd2_11 f2_12]) H := hP
  have hD : va_D A (List.flatten [bLaw g lo lc lz ll lm2_1 lg2_2 ld2_3 fc, bTown g o a pe wo tx ch2_7 jo tr dy sd2_11 f2_12]) := hD
  refine W.widen (k := 0) (n := 0) (Nat.le_of_ble_eq_true rfl) (Nat.le_of_ble_eq_true rfl) ?_
  refine W.eq (g2 := F0 m 23 ls []) rfl ?_
  have rf2_12 := hq13; clear hq13
  refine lv_aload_n hx hb dX9_passDay_23 rfl (lv_at hl 1 rfl) ?_
  refine lv_sipush (v := 9999) hx hb dX9_passDay_24 (by decide) ?_
  refine lv_aload_n hx hb dX9_passDay_27 rfl (lv_at hl 1 rfl) ?_
  refine va_get (D := g.1) (ci := 7) (v := .int dy) (C := RX9) (T := TX9) (N := 19) hx hb hts izRX9 hown hK hP 2 rfl rfl 6 (by decide) (hts _ k34) (fun _ h9 => h9) rfl dX9_passDay_28 ?_
  refine lv_iconst (v := 1) hx hb dX9_passDay_31 (by decide) ?_
  refine lv_iadd hx hb dX9_passDay_32 ?_
  refine zg (fun x_14 => ?_)
  refine va_mmin hx hb (by rw [hml]; exact hl.1.symm) hown (hts _ k40) (hts _ k41) (hts _ k42) (hts _ k43) (Nat.le_of_ble_eq_true rfl) (Nat.le_of_ble_eq_true rfl) (Nat.le_of_ble_eq_true rfl) (Nat.le_of_ble_eq_true rfl) dX9_passDay_33 ?_
  refine zgmn (i := 9999) (j := x_14.toInt) (by decide) rfl (fun x_15 hx_15 => ?_)
  refine va_put (D := g.1) (ci := 7) (v := .int x_15) (ty := .int) (C := RX9) (T := TX9) (N := 19) hx hb hts izRX9 tyX9 tyX9_ok nmX9 hown hK hP hD hS 2 rfl rfl 6 (by decide) (hts _ k34) (fun _ h9 => h9) rfl (by decide +kernel) rfl rfl (Nat.le_of_ble_eq_true rfl) dX9_passDay_36 (fun H locs hP hD hS => ?_)
  have hP : va_P g.1 vwCl (List.flatten [bLaw g lo lc lz ll lm2_1 lg2_2 ld2_3 fc, bTown g o a pe wo tx ch2_7 jo tr x_15 sd2_11 f2_12]) H := hP
  have hD : va_D A (List.flatten [bLaw g lo lc lz ll lm2_1 lg2_2 ld2_3 fc, bTown g o a pe wo tx ch2_7 jo tr x_15 sd2_11 f2_12]) := hD
  refine lv_iload hx hb dX9_passDay_39 (lv_at hl 0 rfl) ?_
  have hP : va_P g.1 vwCl (List.flatten [bLaw g lo lc lz ll lm2_1 lg2_2 ld2_3 fc, bTown g o a pe wo tx ch2_7 jo tr x_15 sd2_11 f2_12]) H := hP
  have hD : va_D A (List.flatten [bLaw g lo lc lz ll lm2_1 lg2_2 ld2_3 fc, bTown g o a pe wo tx ch2_7 jo tr x_15 sd2_11 f2_12]) := hD
  obtain ⟨hP, hD⟩ := zord (g := g) (Bs' := [bTown g o a pe wo tx ch2_7 jo tr x_15 sd2_11 f2_12, bLaw g lo lc lz ll lm2_1 lg2_2 ld2_3 fc]) [1, 0] rfl rfl hP hD
  exact mret_i hx hb hr hlocks hS (Nat.le_of_ble_eq_true rfl) (Nat.le_of_ble_eq_true rfl) dX9_passDay_41 (ch2_7, x_15, sd2_11, f2_12, lm2_1, lg2_2, ld2_3, q_9) rfl (show (zZ4 f2_12) from rf2_12) hP hD
