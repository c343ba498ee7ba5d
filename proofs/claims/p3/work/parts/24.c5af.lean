set_option maxRecDepth 100000 in
set_option maxHeartbeats 4000000 in
theorem c_f_firstFallen (l : Launch) (g : zG) (fo : Nat) (o : Nat) (lo : Nat) (od : Nat) (a : Nat → Nat) (pe : Int32) (wo : Int32) (tx : Int32) (ch : Int32) (jo : Int32) (tr : Int32) (dy : Int32) (sd : Int32) (f : Nat → Nat → Int32) (lc : Nat) (lz : Int32) (ll : Int32) (lm : Int32) (lg : Int32) (ld : Int32) (fc : Nat → Int32) (ad : Nat → Nat) (ped : Int32) (wod : Int32) (txd : Int32) (chd : Int32) (jod : Int32) (trd : Int32) (dyd : Int32) (sdd : Int32) (fd : Nat → Nat → Int32) (w1 : Int32) (b_pe : 0 ≤ pe.toInt ∧ pe.toInt ≤ 8) (b_wo : 0 ≤ wo.toInt ∧ wo.toInt ≤ 6) (rf : zZ4 f) (b_lz : 0 ≤ lz.toInt ∧ lz.toInt ≤ 400) (b_ped : 0 ≤ ped.toInt ∧ ped.toInt ≤ 8) (b_wod : 0 ≤ wod.toInt ∧ wod.toInt ≤ 6) (rfd : zZ4 fd) (b_w1 : 0 ≤ w1.toInt ∧ w1.toInt ≤ 5) : zM' g l yX0_firstFallen (Cond.code yX0_firstFallen cX0_firstFallen 3 (some .int) :: zB) ({ frames := 6, cells := 0, slots := 0, locals := 128 } : Room) [.ref fo, .int w1] [bFo g fo o lo od, bTown g o a pe wo tx ch jo tr dy sd f, bLaw g lo lc lz ll lm lg ld fc, bTown g od ad ped wod txd chd jod trd dyd sdd fd] (fun u : Int32 × Int32 × Int32 × Int32 × Int32 × Int32 × Int32 × Int32 × Int32 × Int32 × Int32 × (Nat → Nat → Int32) × Int32 => (fun (lm2 : Int32) (lg2 : Int32) (ld2 : Int32) (pe3 : Int32) (wo3 : Int32) (tx3 : Int32) (ch3 : Int32) (jo3 : Int32) (tr3 : Int32) (dy3 : Int32) (sd3 : Int32) (f3 : Nat → Nat → Int32) (q : Int32) => some (.int q)) (u.1) (u.2.1) (u.2.2.1) (u.2.2.2.1) (u.2.2.2.2.1) (u.2.2.2.2.2.1) (u.2.2.2.2.2.2.1) (u.2.2.2.2.2.2.2.1) (u.2.2.2.2.2.2.2.2.1) (u.2.2.2.2.2.2.2.2.2.1) (u.2.2.2.2.2.2.2.2.2.2.1) (u.2.2.2.2.2.2.2.2.2.2.2.1) (u.2.2.2.2.2.2.2.2.2.2.2.2)) (fun u : Int32 × Int32 × Int32 × Int32 × Int32 × Int32 × Int32 × Int32 × Int32 × Int32 × Int32 × (Nat → Nat → Int32) × Int32 => (fun (lm2 : Int32) (lg2 : Int32) (ld2 : Int32) (pe3 : Int32) (wo3 : Int32) (tx3 : Int32) (ch3 : Int32) (jo3 : Int32) (tr3 : Int32) (dy3 : Int32) (sd3 : Int32) (f3 : Nat → Nat → Int32) (q : Int32) => (0 ≤ pe3.toInt ∧ pe3.toInt ≤ 8) ∧ (0 ≤ wo3.toInt ∧ wo3.toInt ≤ 6) ∧ (zZ4 f3)) (u.1) (u.2.1) (u.2.2.1) (u.2.2.2.1) (u.2.2.2.2.1) (u.2.2.2.2.2.1) (u.2.2.2.2.2.2.1) (u.2.2.2.2.2.2.2.1) (u.2.2.2.2.2.2.2.2.1) (u.2.2.2.2.2.2.2.2.2.1) (u.2.2.2.2.2.2.2.2.2.2.1) (u.2.2.2.2.2.2.2.2.2.2.2.1) (u.2.2.2.2.2.2.2.2.2.2.2.2)) (fun u : Int32 × Int32 × Int32 × Int32 × Int32 × Int32 × Int32 × Int32 × Int32 × Int32 × Int32 × (Nat → Nat → Int32) × Int32 => (fun (lm2 : Int32) (lg2 : Int32) (ld2 : Int32) (pe3 : Int32) (wo3 : Int32) (tx3 : Int32) (ch3 : Int32) (jo3 : Int32) (tr3 : Int32) (dy3 : Int32) (sd3 : Int32) (f3 : Nat → Nat → Int32) (q : Int32) => [bFo g fo o lo od, bTown g o a pe wo tx ch jo tr dy sd f, bLaw g lo lc lz ll lm2 lg2 ld2 fc, bTown g od ad pe3 wo3 tx3 ch3 jo3 tr3 dy3 sd3 f3]) (u.1) (u.2.1) (u.2.2.1) (u.2.2.2.1) (u.2.2.2.2.1) (u.2.2.2.2.2.1) (u.2.2.2.2.2.2.1) (u.2.2.2.2.2.2.2.1) (u.2.2.2.2.2.2.2.2.1) (u.2.2.2.2.2.2.2.2.2.1) (u.2.2.2.2.2.2.2.2.2.2.1) (u.2.2.2.2.2.2.2.2.2.2.2.1) (u.2.2.2.2.2.2.2.2.2.2.2.2)) := by
  refine zM'.of (cc := cX0_firstFallen) (maxL := 3) (rt := (some .int)) (by decide) rfl (Nat.le_of_ble_eq_true rfl) ?_
  intro p e s m args below meth c A ls St hr hlocks hin hK hT hA hP hD hS hl
  obtain ⟨hx, hb, hml, hown, hts⟩ := id St
  have hl : lv_has ls 3 [(0, .ref fo), (1, .int w1)] := hl
  refine lv_aload_n hx hb dX0_firstFallen_0 rfl (lv_at hl 0 rfl) ?_
  refine va_get (D := g.1) (ci := 0) (v := .ref od) (C := RX0) (T := TX0) (N := 3) hx hb hts izRX0 hown hK hP 0 rfl rfl 2 (by decide) (hts _ k25) (fun _ h9 => h9) rfl dX0_firstFallen_1 ?_
  refine lv_aload_n hx hb dX0_firstFallen_4 rfl (lv_at hl 0 rfl) ?_
  refine va_get (D := g.1) (ci := 0) (v := .ref o) (C := RX0) (T := TX0) (N := 3) hx hb hts izRX0 hown hK hP 0 rfl rfl 0 (by decide) (hts _ k26) (fun _ h9 => h9) rfl dX0_firstFallen_5 ?_
  refine mcallV' (g := g) (q0 := 0) (ci := 7) (As := [.ref o]) (rest := []) St hK hT hA hP hD hS hl.1 [3, 1] [0, 2] rfl rfl rfl (c_copyFrom l g od ad ped wod txd chd jod trd dyd sdd fd o a pe wo tx ch jo tr dy sd f b_pe b_wo rf) (cwV 1 hts (zgL (zl4 k156 k157 k158 k24) k30) rfl rfl rfl (by decide +kernel) ⟨Nat.le_of_ble_eq_true rfl, Nat.le_of_ble_eq_true rfl⟩) rfl rfl rfl rfl (Nat.le_of_ble_eq_true rfl) dX0_firstFallen_8 ⟨(Nat.le_of_ble_eq_true rfl), (Nat.le_of_ble_eq_true rfl)⟩ (fun h_1 H locs hq2 hP hD hS => ?_)
  replace hq2 : (zZ4 h_1) := hq2
  have hP : va_P g.1 vwCl (List.flatten [bFo g fo o lo od, bLaw g lo lc lz ll lm lg ld fc, bTown g od ad pe wo tx ch jo tr dy sd h_1, bTown g o a pe wo tx ch jo tr dy sd f]) H := hP
  have hD : va_D A (List.flatten [bFo g fo o lo od, bLaw g lo lc lz ll lm lg ld fc, bTown g od ad pe wo tx ch jo tr dy sd h_1, bTown g o a pe wo tx ch jo tr dy sd f]) := hD
  refine W.widen (k := 0) (n := 0) (Nat.le_of_ble_eq_true rfl) (Nat.le_of_ble_eq_true rfl) ?_
  refine W.eq (g2 := F0 m 11 ls []) rfl ?_
  have rh_1 := hq2; clear hq2
  refine lv_iconst (v := 0) hx hb dX0_firstFallen_11 (by decide) ?_
  refine lv_istore_n (lv' := [(2, .int 0), (0, .ref fo), (1, .int w1)]) hx hb dX0_firstFallen_12 rfl hl (by decide) rfl (fun ls hl => ?_)
  have hl := lv_sub (l' := [(0, .ref fo), (1, .int w1), (2, .int 0)]) hl [1, 2, 0] rfl
  have LP13_12 : ∀ (kf : Nat) (x_3 : Int32) (x_4 : Int32) (x_5 : Int32) (x_6 : Int32) (x_7 : Int32) (x_8 : Int32) (x_9 : Int32) (f_10 : Nat → Nat → Int32), (0 ≤ x_3.toInt ∧ x_3.toInt ≤ 101) → (zZ4 f_10) → ∀ (H : Heap) (locs : List Loc) (ls : Array Slot), ((102 - x_3.toInt).toNat) < kf → va_P g.1 vwCl (List.flatten [bFo g fo o lo od, bLaw g lo lc lz ll x_4 x_5 x_6 fc, bTown g od ad pe wo tx x_7 jo tr x_8 x_9 f_10, bTown g o a pe wo tx ch jo tr dy sd f]) H → va_D A (List.flatten [bFo g fo o lo od, bLaw g lo lc lz ll x_4 x_5 x_6 fc, bTown g od ad pe wo tx x_7 jo tr x_8 x_9 f_10, bTown g o a pe wo tx ch jo tr dy sd f]) → va_S A s.heap H locs → lv_has ls 3 [(0, .ref fo), (1, .int w1), (2, .int x_3)] → W p l e ({ frames := 6, cells := 0, slots := 0, locals := 128 } : Room) s m args below meth c H locs (0) (0) (zF g (fun u : Int32 × Int32 × Int32 × Int32 × Int32 × Int32 × Int32 × Int32 × Int32 × Int32 × Int32 × (Nat → Nat → Int32) × Int32 => (fun (lm2 : Int32) (lg2 : Int32) (ld2 : Int32) (pe3 : Int32) (wo3 : Int32) (tx3 : Int32) (ch3 : Int32) (jo3 : Int32) (tr3 : Int32) (dy3 : Int32) (sd3 : Int32) (f3 : Nat → Nat → Int32) (q : Int32) => some (.int q)) (u.1) (u.2.1) (u.2.2.1) (u.2.2.2.1) (u.2.2.2.2.1) (u.2.2.2.2.2.1) (u.2.2.2.2.2.2.1) (u.2.2.2.2.2.2.2.1) (u.2.2.2.2.2.2.2.2.1) (u.2.2.2.2.2.2.2.2.2.1) (u.2.2.2.2.2.2.2.2.2.2.1) (u.2.2.2.2.2.2.2.2.2.2.2.1) (u.2.2.2.2.2.2.2.2.2.2.2.2)) (fun u : Int32 × Int32 × Int32 × Int32 × Int32 × Int32 × Int32 × Int32 × Int32 × Int32 × Int32 × (Nat → Nat → Int32) × Int32 => (fun (lm2 : Int32) (lg2 : Int32) (ld2 : Int32) (pe3 : Int32) (wo3 : Int32) (tx3 : Int32) (ch3 : Int32) (jo3 : Int32) (tr3 : Int32) (dy3 : Int32) (sd3 : Int32) (f3 : Nat → Nat → Int32) (q : Int32) => (0 ≤ pe3.toInt ∧ pe3.toInt ≤ 8) ∧ (0 ≤ wo3.toInt ∧ wo3.toInt ≤ 6) ∧ (zZ4 f3)) (u.1) (u.2.1) (u.2.2.1) (u.2.2.2.1) (u.2.2.2.2.1) (u.2.2.2.2.2.1) (u.2.2.2.2.2.2.1) (u.2.2.2.2.2.2.2.1) (u.2.2.2.2.2.2.2.2.1) (u.2.2.2.2.2.2.2.2.2.1) (u.2.2.2.2.2.2.2.2.2.2.1) (u.2.2.2.2.2.2.2.2.2.2.2.1) (u.2.2.2.2.2.2.2.2.2.2.2.2)) (fun u : Int32 × Int32 × Int32 × Int32 × Int32 × Int32 × Int32 × Int32 × Int32 × Int32 × Int32 × (Nat → Nat → Int32) × Int32 => (fun (lm2 : Int32) (lg2 : Int32) (ld2 : Int32) (pe3 : Int32) (wo3 : Int32) (tx3 : Int32) (ch3 : Int32) (jo3 : Int32) (tr3 : Int32) (dy3 : Int32) (sd3 : Int32) (f3 : Nat → Nat → Int32) (q : Int32) => [bFo g fo o lo od, bTown g o a pe wo tx ch jo tr dy sd f, bLaw g lo lc lz ll lm2 lg2 ld2 fc, bTown g od ad pe3 wo3 tx3 ch3 jo3 tr3 dy3 sd3 f3]) (u.1) (u.2.1) (u.2.2.1) (u.2.2.2.1) (u.2.2.2.2.1) (u.2.2.2.2.2.1) (u.2.2.2.2.2.2.1) (u.2.2.2.2.2.2.2.1) (u.2.2.2.2.2.2.2.2.1) (u.2.2.2.2.2.2.2.2.2.1) (u.2.2.2.2.2.2.2.2.2.2.1) (u.2.2.2.2.2.2.2.2.2.2.2.1) (u.2.2.2.2.2.2.2.2.2.2.2.2)) ({ frames := 6, cells := 0, slots := 0, locals := 128 } : Room) below args s A) (F0 m 13 ls []) := by
    intro kf
    induction kf with
    | zero => intro x_3 x_4 x_5 x_6 x_7 x_8 x_9 f_10 i11 rf_10 H locs ls hk; exact absurd hk (Nat.not_lt_zero _)
    | succ kf ih13_13 =>
      intro x_3 x_4 x_5 x_6 x_7 x_8 x_9 f_10 i11 rf_10 H locs ls hk13_13 hP hD hS hl
      refine lv_iload_n hx hb dX0_firstFallen_13 rfl (lv_at hl 2 rfl) ?_
      refine lv_bipush (v := 100) hx hb dX0_firstFallen_14 (by decide) ?_
      refine lv_icmp_gt (tgt := 54) hx hb dX0_firstFallen_16 (by decide) (fun cb9 => ?_) (fun cb9 => ?_)
      · skip
        have c14 : 100 < x_3.toInt := zlti cb9 (by decide) rfl
        have n15 : 101 ≤ x_3.toInt := zL2 (a := 100) c14 (Int.le_refl _) (by decide)
        refine lv_iconst (v := (-1)) hx hb dX0_firstFallen_54 (by decide) ?_
        have hP : va_P g.1 vwCl (List.flatten [bFo g fo o lo od, bLaw g lo lc lz ll x_4 x_5 x_6 fc, bTown g od ad pe wo tx x_7 jo tr x_8 x_9 f_10, bTown g o a pe wo tx ch jo tr dy sd f]) H := hP
        have hD : va_D A (List.flatten [bFo g fo o lo od, bLaw g lo lc lz ll x_4 x_5 x_6 fc, bTown g od ad pe wo tx x_7 jo tr x_8 x_9 f_10, bTown g o a pe wo tx ch jo tr dy sd f]) := hD
        obtain ⟨hP, hD⟩ := zord (g := g) (Bs' := [bFo g fo o lo od, bTown g o a pe wo tx ch jo tr dy sd f, bLaw g lo lc lz ll x_4 x_5 x_6 fc, bTown g od ad pe wo tx x_7 jo tr x_8 x_9 f_10]) [0, 3, 1, 2] rfl rfl hP hD
        exact mret_i hx hb hr hlocks hS (Nat.le_of_ble_eq_true rfl) (Nat.le_of_ble_eq_true rfl) dX0_firstFallen_55 (x_4, x_5, x_6, pe, wo, tx, x_7, jo, tr, x_8, x_9, f_10, -1) rfl (show (0 ≤ pe.toInt ∧ pe.toInt ≤ 8) ∧ (0 ≤ wo.toInt ∧ wo.toInt ≤ 6) ∧ (zZ4 f_10) from ⟨b_pe, b_wo, rf_10⟩) hP hD
      · skip
        have c16 : x_3.toInt ≤ 100 := zle (Int32.not_lt.mp cb9) rfl (by decide)
        have n17 : x_3.toInt ≤ 100 := Int.le_trans c16 (Int.le_refl _)
        refine lv_aload_n hx hb dX0_firstFallen_19 rfl (lv_at hl 0 rfl) ?_
        refine va_get (D := g.1) (ci := 0) (v := .ref od) (C := RX0) (T := TX0) (N := 3) hx hb hts izRX0 hown hK hP 0 rfl rfl 2 (by decide) (hts _ k25) (fun _ h9 => h9) rfl dX0_firstFallen_20 ?_
        refine va_get (D := g.1) (ci := 7) (v := .ref (ad 9)) (C := RX9) (T := TX9) (N := 19) hx hb hts izRX9 hown hK hP 3 rfl rfl 17 (by decide) (hts _ k184) (fun _ h9 => h9) rfl dX0_firstFallen_23 ?_
        refine lv_iload_n hx hb dX0_firstFallen_26 rfl (lv_at hl 1 rfl) ?_
        refine va_iald hx hb hK hP 13 0 rfl rfl (zinK (a := 0) (b := 5) b_w1.1 b_w1.2 (by decide)) dX0_firstFallen_27 ?_
        refine zg (fun x_18 => ?_)
        refine lv_iconst (v := 2) hx hb dX0_firstFallen_28 (by decide) ?_
        refine lv_icmp_ne (tgt := 34) hx hb dX0_firstFallen_29 (by decide) (fun cb9 => ?_) (fun cb9 => ?_)
        · skip
          have c19 : ¬ x_18.toInt = 2 := zne cb9 rfl (by decide)
          refine lv_aload_n hx hb dX0_firstFallen_34 rfl (lv_at hl 0 rfl) ?_
          refine va_get (D := g.1) (ci := 0) (v := .ref od) (C := RX0) (T := TX0) (N := 3) hx hb hts izRX0 hown hK hP 0 rfl rfl 2 (by decide) (hts _ k25) (fun _ h9 => h9) rfl dX0_firstFallen_35 ?_
          refine lv_aload_n hx hb dX0_firstFallen_38 rfl (lv_at hl 0 rfl) ?_
          refine va_get (D := g.1) (ci := 0) (v := .ref lo) (C := RX0) (T := TX0) (N := 3) hx hb hts izRX0 hown hK hP 0 rfl rfl 1 (by decide) (hts _ k27) (fun _ h9 => h9) rfl dX0_firstFallen_39 ?_
          refine lv_iconst (v := 0) hx hb dX0_firstFallen_42 (by decide) ?_
          refine lv_null hx hb dX0_firstFallen_43 ?_
          refine mcallV' (g := g) (q0 := 0) (ci := 7) (As := [.ref lo, .int 0, .null]) (rest := []) St hK hT hA hP hD hS hl.1 [2, 1] [0, 3] rfl rfl rfl (c_passDayN l g od ad pe wo tx x_7 jo tr x_8 x_9 f_10 lo lc lz ll x_4 x_5 x_6 fc 0 b_pe b_wo rf_10 b_lz) (cwV 3 hts (zgL (zl4 k160 k161 k162 k24) k154) rfl rfl rfl (by decide +kernel) ⟨Nat.le_of_ble_eq_true rfl, Nat.le_of_ble_eq_true rfl⟩) rfl rfl rfl rfl (Nat.le_of_ble_eq_true rfl) dX0_firstFallen_44 ⟨(Nat.le_of_ble_eq_true rfl), (Nat.le_of_ble_eq_true rfl)⟩ (fun u_ H locs hq28 hP hD hS => ?_)
          obtain ⟨ch2_20, dy2_21, sd2_22, f2_23, lm2_24, lg2_25, ld2_26, q_27⟩ := u_
          replace hq28 : (zZ4 f2_23) := hq28
          have hP : va_P g.1 vwCl (List.flatten [bFo g fo o lo od, bTown g o a pe wo tx ch jo tr dy sd f, bTown g od ad pe wo tx ch2_20 jo tr dy2_21 sd2_22 f2_23, bLaw g lo lc lz ll lm2_24 lg2_25 ld2_26 fc]) H := hP
          have hD : va_D A (List.flatten [bFo g fo o lo od, bTown g o a pe wo tx ch jo tr dy sd f, bTown g od ad pe wo tx ch2_20 jo tr dy2_21 sd2_22 f2_23, bLaw g lo lc lz ll lm2_24 lg2_25 ld2_26 fc]) := hD
          refine W.widen (k := 0) (n := 0) (Nat.le_of_ble_eq_true rfl) (Nat.le_of_ble_eq_true rfl) ?_
          refine W.eq (g2 := F0 m 47 ls [.int q_27]) rfl ?_
          have rf2_23 := hq28; clear hq28
          refine lv_pop hx hb dX0_firstFallen_47 rfl ?_
          refine ziinc3 (n' := 1) (a' := 1) (b' := 101) (lv' := fun v9 => [(2, .int v9), (0, .ref fo), (1, .int w1)]) hx hb dX0_firstFallen_48 hl (k := 2) rfl (by decide) (fun _ => rfl) (zaddK (i := x_3.toInt) (j := 1) rfl (by decide) i11.1 n17 (Int.le_refl _) (Int.le_refl _) (by decide)) (fun x_29 ls hx_29 hl => ?_)
          refine lv_goto (tgt := 13) hx hb dX0_firstFallen_51 (by decide) ?_
          have hl := lv_sub (l' := [(0, .ref fo), (1, .int w1), (2, .int x_29)]) hl [1, 2, 0] rfl
          have hP : va_P g.1 vwCl (List.flatten [bFo g fo o lo od, bTown g o a pe wo tx ch jo tr dy sd f, bTown g od ad pe wo tx ch2_20 jo tr dy2_21 sd2_22 f2_23, bLaw g lo lc lz ll lm2_24 lg2_25 ld2_26 fc]) H := hP
          have hD : va_D A (List.flatten [bFo g fo o lo od, bTown g o a pe wo tx ch jo tr dy sd f, bTown g od ad pe wo tx ch2_20 jo tr dy2_21 sd2_22 f2_23, bLaw g lo lc lz ll lm2_24 lg2_25 ld2_26 fc]) := hD
          obtain ⟨hP, hD⟩ := zord (g := g) (Bs' := [bFo g fo o lo od, bLaw g lo lc lz ll lm2_24 lg2_25 ld2_26 fc, bTown g od ad pe wo tx ch2_20 jo tr dy2_21 sd2_22 f2_23, bTown g o a pe wo tx ch jo tr dy sd f]) [0, 3, 2, 1] rfl rfl hP hD
          have hP : va_P g.1 vwCl (List.flatten [bFo g fo o lo od, bLaw g lo lc lz ll lm2_24 lg2_25 ld2_26 fc, bTown g od ad pe wo tx ch2_20 jo tr dy2_21 sd2_22 f2_23, bTown g o a pe wo tx ch jo tr dy sd f]) H := hP
          have hD : va_D A (List.flatten [bFo g fo o lo od, bLaw g lo lc lz ll lm2_24 lg2_25 ld2_26 fc, bTown g od ad pe wo tx ch2_20 jo tr dy2_21 sd2_22 f2_23, bTown g o a pe wo tx ch jo tr dy sd f]) := hD
          exact ih13_13 x_29 lm2_24 lg2_25 ld2_26 ch2_20 dy2_21 sd2_22 f2_23 ⟨(Int.le_trans (by decide) hx_29.2.1), hx_29.2.2⟩ rf2_23 H _ ls (zmK hx_29.1 (by decide) n17 (by decide) hk13_13)  hP hD hS (lv_sub hl [0, 1, 2] rfl)
        · skip
          have c30 : x_18.toInt = 2 := zeq cb9 rfl (by decide)
          have n31 : 2 ≤ x_18.toInt := Int.le_trans (Int.le_refl _) (Int.le_of_eq c30.symm)
          have n32 : x_18.toInt ≤ 2 := Int.le_trans (Int.le_of_eq c30) (Int.le_refl _)
          refine lv_iload_n hx hb dX0_firstFallen_32 rfl (lv_at hl 2 rfl) ?_
          have hP : va_P g.1 vwCl (List.flatten [bFo g fo o lo od, bLaw g lo lc lz ll x_4 x_5 x_6 fc, bTown g od ad pe wo tx x_7 jo tr x_8 x_9 f_10, bTown g o a pe wo tx ch jo tr dy sd f]) H := hP
          have hD : va_D A (List.flatten [bFo g fo o lo od, bLaw g lo lc lz ll x_4 x_5 x_6 fc, bTown g od ad pe wo tx x_7 jo tr x_8 x_9 f_10, bTown g o a pe wo tx ch jo tr dy sd f]) := hD
          obtain ⟨hP, hD⟩ := zord (g := g) (Bs' := [bFo g fo o lo od, bTown g o a pe wo tx ch jo tr dy sd f, bLaw g lo lc lz ll x_4 x_5 x_6 fc, bTown g od ad pe wo tx x_7 jo tr x_8 x_9 f_10]) [0, 3, 1, 2] rfl rfl hP hD
          exact mret_i hx hb hr hlocks hS (Nat.le_of_ble_eq_true rfl) (Nat.le_of_ble_eq_true rfl) dX0_firstFallen_33 (x_4, x_5, x_6, pe, wo, tx, x_7, jo, tr, x_8, x_9, f_10, x_3) rfl (show (0 ≤ pe.toInt ∧ pe.toInt ≤ 8) ∧ (0 ≤ wo.toInt ∧ wo.toInt ≤ 6) ∧ (zZ4 f_10) from ⟨b_pe, b_wo, rf_10⟩) hP hD
  have hP : va_P g.1 vwCl (List.flatten [bFo g fo o lo od, bLaw g lo lc lz ll lm lg ld fc, bTown g od ad pe wo tx ch jo tr dy sd h_1, bTown g o a pe wo tx ch jo tr dy sd f]) H := hP
  have hD : va_D A (List.flatten [bFo g fo o lo od, bLaw g lo lc lz ll lm lg ld fc, bTown g od ad pe wo tx ch jo tr dy sd h_1, bTown g o a pe wo tx ch jo tr dy sd f]) := hD
  exact LP13_12 _ 0 lm lg ld ch dy sd h_1 (by decide) rh_1 H _ ls (Nat.lt_succ_self _)  hP hD hS (lv_sub hl [0, 1, 2] rfl)
