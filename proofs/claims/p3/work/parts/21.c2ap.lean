set_option maxRecDepth 100000 in
set_option maxHeartbeats 4000000 in
theorem c_l_look (l : Launch) (g : zG) (lo : Nat) (lc : Nat) (lz : Int32) (ll : Int32) (lm : Int32) (lg : Int32) (ld : Int32) (fc : Nat → Int32) (x1 : Int32) (y1 : Int32) (z1 : Int32)  : zM' g l yX1_look (Cond.code yX1_look cX1_look 4 none :: zB) ({ frames := 0, cells := 0, slots := 0, locals := 0 } : Room) [.ref lo, .int x1, .int y1, .int z1] [bLaw g lo lc lz ll lm lg ld fc] (fun _ : Unit => none) (fun _ : Unit => True) (fun _ : Unit => [bLaw g lo lc lz ll x1 y1 z1 fc]) := by
  refine zM'.of (cc := cX1_look) (maxL := 4) (rt := none) (by decide) rfl (Nat.le_of_ble_eq_true rfl) ?_
  intro p e s m args below meth c A ls St hr hlocks hin hK hT hA hP hD hS hl
  obtain ⟨hx, hb, hml, hown, hts⟩ := id St
  have hl : lv_has ls 4 [(0, .ref lo), (1, .int x1), (2, .int y1), (3, .int z1)] := hl
  refine lv_aload_n hx hb dX1_look_0 rfl (lv_at hl 0 rfl) ?_
  refine lv_iload_n hx hb dX1_look_1 rfl (lv_at hl 1 rfl) ?_
  refine va_put (D := g.1) (ci := 1) (v := .int x1) (ty := .int) (C := RX1) (T := TX1) (N := 6) hx hb hts izRX1 tyX1 tyX1_ok nmX1 hown hK hP hD hS 0 rfl rfl 3 (by decide) (hts _ k73) (fun _ h9 => h9) rfl (by decide +kernel) rfl rfl (Nat.le_of_ble_eq_true rfl) dX1_look_2 (fun H locs hP hD hS => ?_)
  have hP : va_P g.1 vwCl (List.flatten [bLaw g lo lc lz ll x1 lg ld fc]) H := hP
  have hD : va_D A (List.flatten [bLaw g lo lc lz ll x1 lg ld fc]) := hD
  refine lv_aload_n hx hb dX1_look_5 rfl (lv_at hl 0 rfl) ?_
  refine lv_iload_n hx hb dX1_look_6 rfl (lv_at hl 2 rfl) ?_
  refine va_put (D := g.1) (ci := 1) (v := .int y1) (ty := .int) (C := RX1) (T := TX1) (N := 6) hx hb hts izRX1 tyX1 tyX1_ok nmX1 hown hK hP hD hS 0 rfl rfl 4 (by decide) (hts _ k74) (fun _ h9 => h9) rfl (by decide +kernel) rfl rfl (Nat.le_of_ble_eq_true rfl) dX1_look_7 (fun H locs hP hD hS => ?_)
  have hP : va_P g.1 vwCl (List.flatten [bLaw g lo lc lz ll x1 y1 ld fc]) H := hP
  have hD : va_D A (List.flatten [bLaw g lo lc lz ll x1 y1 ld fc]) := hD
  refine lv_aload_n hx hb dX1_look_10 rfl (lv_at hl 0 rfl) ?_
  refine lv_iload_n hx hb dX1_look_11 rfl (lv_at hl 3 rfl) ?_
  refine va_put (D := g.1) (ci := 1) (v := .int z1) (ty := .int) (C := RX1) (T := TX1) (N := 6) hx hb hts izRX1 tyX1 tyX1_ok nmX1 hown hK hP hD hS 0 rfl rfl 5 (by decide) (hts _ k75) (fun _ h9 => h9) rfl (by decide +kernel) rfl rfl (Nat.le_of_ble_eq_true rfl) dX1_look_12 (fun H locs hP hD hS => ?_)
  have hP : va_P g.1 vwCl (List.flatten [bLaw g lo lc lz ll x1 y1 z1 fc]) H := hP
  have hD : va_D A (List.flatten [bLaw g lo lc lz ll x1 y1 z1 fc]) := hD
  have hP : va_P g.1 vwCl (List.flatten [bLaw g lo lc lz ll x1 y1 z1 fc]) H := hP
  have hD : va_D A (List.flatten [bLaw g lo lc lz ll x1 y1 z1 fc]) := hD
  exact mret_v hx hb hr hlocks hS (Nat.le_of_ble_eq_true rfl) (Nat.le_of_ble_eq_true rfl) dX1_look_15 () rfl trivial hP hD
set_option maxRecDepth 100000 in
set_option maxHeartbeats 4000000 in
theorem c_l_partOf (l : Launch) (g : zG) (lo : Nat) (lc : Nat) (lz : Int32) (ll : Int32) (lm : Int32) (lg : Int32) (ld : Int32) (fc : Nat → Int32) (o : Nat) (a : Nat → Nat) (pe : Int32) (wo : Int32) (tx : Int32) (ch : Int32) (jo : Int32) (tr : Int32) (dy : Int32) (sd : Int32) (f : Nat → Nat → Int32) (x1 : Int32) (kn : Int32) (b_pe : 0 ≤ pe.toInt ∧ pe.toInt ≤ 8) (b_wo : 0 ≤ wo.toInt ∧ wo.toInt ≤ 6) (rf : zZ4 f) (b_x1 : 0 ≤ x1.toInt ∧ x1.toInt ≤ 7) : zM' g l yX1_partOf (Cond.code yX1_partOf cX1_partOf 4 (some .int) :: zB) ({ frames := 1, cells := 0, slots := 0, locals := 23 } : Room) [.ref lo, .ref o, .int x1, .int kn] [bLaw g lo lc lz ll lm lg ld fc, bTown g o a pe wo tx ch jo tr dy sd f] (fun (q : Int32) => some (.int q)) (fun (q : Int32) => True) (fun (q : Int32) => [bLaw g lo lc lz ll lm lg ld fc, bTown g o a pe wo tx ch jo tr dy sd f]) := by
  refine zM'.of (cc := cX1_partOf) (maxL := 4) (rt := (some .int)) (by decide) rfl (Nat.le_of_ble_eq_true rfl) ?_
  intro p e s m args below meth c A ls St hr hlocks hin hK hT hA hP hD hS hl
  obtain ⟨hx, hb, hml, hown, hts⟩ := id St
  have hl : lv_has ls 4 [(0, .ref lo), (1, .ref o), (2, .int x1), (3, .int kn)] := hl
  refine lv_iload_n hx hb dX1_partOf_0 rfl (lv_at hl 3 rfl) ?_
  by_cases hsw1 : kn = 1
  · subst hsw1
    refine lv_tableIn (x := 1) (off := 35) (tgt := 36) hx hb dX1_partOf_1 (by decide) (by decide) rfl (by decide) ?_
    refine lv_iload_n hx hb dX1_partOf_36 rfl (lv_at hl 2 rfl) ?_
    have hP : va_P g.1 vwCl (List.flatten [bLaw g lo lc lz ll lm lg ld fc, bTown g o a pe wo tx ch jo tr dy sd f]) s.heap := hP
    have hD : va_D A (List.flatten [bLaw g lo lc lz ll lm lg ld fc, bTown g o a pe wo tx ch jo tr dy sd f]) := hD
    exact mret_i hx hb hr hlocks hS (Nat.le_of_ble_eq_true rfl) (Nat.le_of_ble_eq_true rfl) dX1_partOf_37 (x1) rfl trivial hP hD
  by_cases hsw2 : kn = 2
  · subst hsw2
    refine lv_tableIn (x := 2) (off := 37) (tgt := 38) hx hb dX1_partOf_1 (by decide) (by decide) rfl (by decide) ?_
    refine lv_aload_n hx hb dX1_partOf_38 rfl (lv_at hl 1 rfl) ?_
    refine va_get (D := g.1) (ci := 7) (v := .ref (a 0)) (C := RX9) (T := TX9) (N := 19) hx hb hts izRX9 hown hK hP 2 rfl rfl 8 (by decide) (hts _ k94) (fun _ h9 => h9) rfl dX1_partOf_39 ?_
    refine lv_iload_n hx hb dX1_partOf_42 rfl (lv_at hl 2 rfl) ?_
    refine va_iald hx hb hK hP 3 0 rfl rfl (zinK (a := 0) (b := 7) b_x1.1 b_x1.2 (by decide)) dX1_partOf_43 ?_
    refine zg (fun x_1 => ?_)
    have hP : va_P g.1 vwCl (List.flatten [bLaw g lo lc lz ll lm lg ld fc, bTown g o a pe wo tx ch jo tr dy sd f]) s.heap := hP
    have hD : va_D A (List.flatten [bLaw g lo lc lz ll lm lg ld fc, bTown g o a pe wo tx ch jo tr dy sd f]) := hD
    exact mret_i hx hb hr hlocks hS (Nat.le_of_ble_eq_true rfl) (Nat.le_of_ble_eq_true rfl) dX1_partOf_44 (x_1) rfl trivial hP hD
  by_cases hsw3 : kn = 3
  · subst hsw3
    refine lv_tableIn (x := 3) (off := 44) (tgt := 45) hx hb dX1_partOf_1 (by decide) (by decide) rfl (by decide) ?_
    refine lv_aload_n hx hb dX1_partOf_45 rfl (lv_at hl 0 rfl) ?_
    refine va_get (D := g.1) (ci := 1) (v := .int lm) (C := RX1) (T := TX1) (N := 6) hx hb hts izRX1 hown hK hP 0 rfl rfl 3 (by decide) (hts _ k73) (fun _ h9 => h9) rfl dX1_partOf_46 ?_
    have hP : va_P g.1 vwCl (List.flatten [bLaw g lo lc lz ll lm lg ld fc, bTown g o a pe wo tx ch jo tr dy sd f]) s.heap := hP
    have hD : va_D A (List.flatten [bLaw g lo lc lz ll lm lg ld fc, bTown g o a pe wo tx ch jo tr dy sd f]) := hD
    exact mret_i hx hb hr hlocks hS (Nat.le_of_ble_eq_true rfl) (Nat.le_of_ble_eq_true rfl) dX1_partOf_49 (lm) rfl trivial hP hD
  by_cases hsw4 : kn = 4
  · subst hsw4
    refine lv_tableIn (x := 4) (off := 49) (tgt := 50) hx hb dX1_partOf_1 (by decide) (by decide) rfl (by decide) ?_
    refine lv_aload_n hx hb dX1_partOf_50 rfl (lv_at hl 0 rfl) ?_
    refine va_get (D := g.1) (ci := 1) (v := .int lg) (C := RX1) (T := TX1) (N := 6) hx hb hts izRX1 hown hK hP 0 rfl rfl 4 (by decide) (hts _ k74) (fun _ h9 => h9) rfl dX1_partOf_51 ?_
    have hP : va_P g.1 vwCl (List.flatten [bLaw g lo lc lz ll lm lg ld fc, bTown g o a pe wo tx ch jo tr dy sd f]) s.heap := hP
    have hD : va_D A (List.flatten [bLaw g lo lc lz ll lm lg ld fc, bTown g o a pe wo tx ch jo tr dy sd f]) := hD
    exact mret_i hx hb hr hlocks hS (Nat.le_of_ble_eq_true rfl) (Nat.le_of_ble_eq_true rfl) dX1_partOf_54 (lg) rfl trivial hP hD
  by_cases hsw5 : kn = 5
  · subst hsw5
    refine lv_tableIn (x := 5) (off := 54) (tgt := 55) hx hb dX1_partOf_1 (by decide) (by decide) rfl (by decide) ?_
    refine lv_aload_n hx hb dX1_partOf_55 rfl (lv_at hl 1 rfl) ?_
    refine lv_iload_n hx hb dX1_partOf_56 rfl (lv_at hl 2 rfl) ?_
    refine mcallV' (g := g) (q0 := 0) (ci := 7) (As := [.int x1]) (rest := []) St hK hT hA hP hD hS hl.1 [1] [0] rfl rfl rfl (c_tiesOf l g o a pe wo tx ch jo tr dy sd f x1 b_pe b_wo rf b_x1) (cwV 1 hts (zgL (zl4 k95 k96 k97 k24) k92) rfl rfl rfl (by decide +kernel) ⟨Nat.le_of_ble_eq_true rfl, Nat.le_of_ble_eq_true rfl⟩) rfl rfl rfl rfl (Nat.le_of_ble_eq_true rfl) dX1_partOf_57 ⟨(Nat.le_of_ble_eq_true rfl), (Nat.le_of_ble_eq_true rfl)⟩ (fun q_2 H locs hq3 hP hD hS => ?_)
    have hP : va_P g.1 vwCl (List.flatten [bLaw g lo lc lz ll lm lg ld fc, bTown g o a pe wo tx ch jo tr dy sd f]) H := hP
    have hD : va_D A (List.flatten [bLaw g lo lc lz ll lm lg ld fc, bTown g o a pe wo tx ch jo tr dy sd f]) := hD
    refine W.widen (k := 0) (n := 0) (Nat.le_of_ble_eq_true rfl) (Nat.le_of_ble_eq_true rfl) ?_
    refine W.eq (g2 := F0 m 60 ls [.int q_2]) rfl ?_
    have hP : va_P g.1 vwCl (List.flatten [bLaw g lo lc lz ll lm lg ld fc, bTown g o a pe wo tx ch jo tr dy sd f]) H := hP
    have hD : va_D A (List.flatten [bLaw g lo lc lz ll lm lg ld fc, bTown g o a pe wo tx ch jo tr dy sd f]) := hD
    exact mret_i hx hb hr hlocks hS (Nat.le_of_ble_eq_true rfl) (Nat.le_of_ble_eq_true rfl) dX1_partOf_60 (q_2) rfl trivial hP hD
  refine lv_tableOut (tgt := 61) hx hb dX1_partOf_1 (by have := lv_neT hsw1 (show Int32.toInt 1 = 1 from by decide); have := lv_neT hsw2 (show Int32.toInt 2 = 2 from by decide); have := lv_neT hsw3 (show Int32.toInt 3 = 3 from by decide); have := lv_neT hsw4 (show Int32.toInt 4 = 4 from by decide); have := lv_neT hsw5 (show Int32.toInt 5 = 5 from by decide); omega) (by decide) ?_
  refine lv_aload_n hx hb dX1_partOf_61 rfl (lv_at hl 0 rfl) ?_
  refine va_get (D := g.1) (ci := 1) (v := .int ld) (C := RX1) (T := TX1) (N := 6) hx hb hts izRX1 hown hK hP 0 rfl rfl 5 (by decide) (hts _ k75) (fun _ h9 => h9) rfl dX1_partOf_62 ?_
  have hP : va_P g.1 vwCl (List.flatten [bLaw g lo lc lz ll lm lg ld fc, bTown g o a pe wo tx ch jo tr dy sd f]) s.heap := hP
  have hD : va_D A (List.flatten [bLaw g lo lc lz ll lm lg ld fc, bTown g o a pe wo tx ch jo tr dy sd f]) := hD
  exact mret_i hx hb hr hlocks hS (Nat.le_of_ble_eq_true rfl) (Nat.le_of_ble_eq_true rfl) dX1_partOf_65 (ld) rfl trivial hP hD
