set_option maxRecDepth 100000 in
set_option maxHeartbeats 4000000 in
theorem c_f_greatestPrice (l : Launch) (g : zG) (fo : Nat) (o : Nat) (lo : Nat) (od : Nat) (a : Nat → Nat) (pe : Int32) (wo : Int32) (tx : Int32) (ch : Int32) (jo : Int32) (tr : Int32) (dy : Int32) (sd : Int32) (f : Nat → Nat → Int32) (lc : Nat) (lz : Int32) (ll : Int32) (lm : Int32) (lg : Int32) (ld : Int32) (fc : Nat → Int32) (ad : Nat → Nat) (ped : Int32) (wod : Int32) (txd : Int32) (chd : Int32) (jod : Int32) (trd : Int32) (dyd : Int32) (sdd : Int32) (fd : Nat → Nat → Int32) (n : Int32) (mu : Int32) (b_pe : 0 ≤ pe.toInt ∧ pe.toInt ≤ 8) (b_wo : 0 ≤ wo.toInt ∧ wo.toInt ≤ 6) (rf : zZ4 f) (b_lz : 0 ≤ lz.toInt ∧ lz.toInt ≤ 400) (b_ped : 0 ≤ ped.toInt ∧ ped.toInt ≤ 8) (b_wod : 0 ≤ wod.toInt ∧ wod.toInt ≤ 6) (rfd : zZ4 fd) (b_n : 0 ≤ n.toInt ∧ n.toInt ≤ 100) : zM' g l yX0_greatestPrice (Cond.code yX0_greatestPrice cX0_greatestPrice 6 (some .int) :: zB) ({ frames := 6, cells := 0, slots := 0, locals := 128 } : Room) [.ref fo, .int n, .int mu] [bFo g fo o lo od, bTown g o a pe wo tx ch jo tr dy sd f, bLaw g lo lc lz ll lm lg ld fc, bTown g od ad ped wod txd chd jod trd dyd sdd fd] (fun u : Int32 × Int32 × Int32 × Int32 × Int32 × Int32 × Int32 × Int32 × Int32 × Int32 × Int32 × (Nat → Nat → Int32) × Int32 => (fun (lm2 : Int32) (lg2 : Int32) (ld2 : Int32) (pe3 : Int32) (wo3 : Int32) (tx3 : Int32) (ch3 : Int32) (jo3 : Int32) (tr3 : Int32) (dy3 : Int32) (sd3 : Int32) (f3 : Nat → Nat → Int32) (q : Int32) => some (.int q)) (u.1) (u.2.1) (u.2.2.1) (u.2.2.2.1) (u.2.2.2.2.1) (u.2.2.2.2.2.1) (u.2.2.2.2.2.2.1) (u.2.2.2.2.2.2.2.1) (u.2.2.2.2.2.2.2.2.1) (u.2.2.2.2.2.2.2.2.2.1) (u.2.2.2.2.2.2.2.2.2.2.1) (u.2.2.2.2.2.2.2.2.2.2.2.1) (u.2.2.2.2.2.2.2.2.2.2.2.2)) (fun u : Int32 × Int32 × Int32 × Int32 × Int32 × Int32 × Int32 × Int32 × Int32 × Int32 × Int32 × (Nat → Nat → Int32) × Int32 => (fun (lm2 : Int32) (lg2 : Int32) (ld2 : Int32) (pe3 : Int32) (wo3 : Int32) (tx3 : Int32) (ch3 : Int32) (jo3 : Int32) (tr3 : Int32) (dy3 : Int32) (sd3 : Int32) (f3 : Nat → Nat → Int32) (q : Int32) => (0 ≤ pe3.toInt ∧ pe3.toInt ≤ 8) ∧ (0 ≤ wo3.toInt ∧ wo3.toInt ≤ 6) ∧ (zZ4 f3)) (u.1) (u.2.1) (u.2.2.1) (u.2.2.2.1) (u.2.2.2.2.1) (u.2.2.2.2.2.1) (u.2.2.2.2.2.2.1) (u.2.2.2.2.2.2.2.1) (u.2.2.2.2.2.2.2.2.1) (u.2.2.2.2.2.2.2.2.2.1) (u.2.2.2.2.2.2.2.2.2.2.1) (u.2.2.2.2.2.2.2.2.2.2.2.1) (u.2.2.2.2.2.2.2.2.2.2.2.2)) (fun u : Int32 × Int32 × Int32 × Int32 × Int32 × Int32 × Int32 × Int32 × Int32 × Int32 × Int32 × (Nat → Nat → Int32) × Int32 => (fun (lm2 : Int32) (lg2 : Int32) (ld2 : Int32) (pe3 : Int32) (wo3 : Int32) (tx3 : Int32) (ch3 : Int32) (jo3 : Int32) (tr3 : Int32) (dy3 : Int32) (sd3 : Int32) (f3 : Nat → Nat → Int32) (q : Int32) => [bFo g fo o lo od, bTown g o a pe wo tx ch jo tr dy sd f, bLaw g lo lc lz ll lm2 lg2 ld2 fc, bTown g od ad pe3 wo3 tx3 ch3 jo3 tr3 dy3 sd3 f3]) (u.1) (u.2.1) (u.2.2.1) (u.2.2.2.1) (u.2.2.2.2.1) (u.2.2.2.2.2.1) (u.2.2.2.2.2.2.1) (u.2.2.2.2.2.2.2.1) (u.2.2.2.2.2.2.2.2.1) (u.2.2.2.2.2.2.2.2.2.1) (u.2.2.2.2.2.2.2.2.2.2.1) (u.2.2.2.2.2.2.2.2.2.2.2.1) (u.2.2.2.2.2.2.2.2.2.2.2.2)) := by
  refine zM'.of (cc := cX0_greatestPrice) (maxL := 6) (rt := (some .int)) (by decide) rfl (Nat.le_of_ble_eq_true rfl) ?_
  intro p e s m args below meth c A ls St hr hlocks hin hK hT hA hP hD hS hl
  obtain ⟨hx, hb, hml, hown, hts⟩ := id St
  have hl : lv_has ls 6 [(0, .ref fo), (1, .int n), (2, .int mu)] := hl
  refine lv_aload_n hx hb dX0_greatestPrice_0 rfl (lv_at hl 0 rfl) ?_
  refine va_get (D := g.1) (ci := 0) (v := .ref od) (C := RX0) (T := TX0) (N := 3) hx hb hts izRX0 hown hK hP 0 rfl rfl 2 (by decide) (hts _ k25) (fun _ h9 => h9) rfl dX0_greatestPrice_1 ?_
  refine lv_aload_n hx hb dX0_greatestPrice_4 rfl (lv_at hl 0 rfl) ?_
  refine va_get (D := g.1) (ci := 0) (v := .ref o) (C := RX0) (T := TX0) (N := 3) hx hb hts izRX0 hown hK hP 0 rfl rfl 0 (by decide) (hts _ k26) (fun _ h9 => h9) rfl dX0_greatestPrice_5 ?_
  refine mcallV' (g := g) (q0 := 0) (ci := 7) (As := [.ref o]) (rest := []) St hK hT hA hP hD hS hl.1 [3, 1] [0, 2] rfl rfl rfl (c_copyFrom l g od ad ped wod txd chd jod trd dyd sdd fd o a pe wo tx ch jo tr dy sd f b_pe b_wo rf) (cwV 1 hts (zgL (zl4 k156 k157 k158 k24) k30) rfl rfl rfl (by decide +kernel) ⟨Nat.le_of_ble_eq_true rfl, Nat.le_of_ble_eq_true rfl⟩) rfl rfl rfl rfl (Nat.le_of_ble_eq_true rfl) dX0_greatestPrice_8 ⟨(Nat.le_of_ble_eq_true rfl), (Nat.le_of_ble_eq_true rfl)⟩ (fun h_1 H locs hq2 hP hD hS => ?_)
  replace hq2 : (zZ4 h_1) := hq2
  have hP : va_P g.1 vwCl (List.flatten [bFo g fo o lo od, bLaw g lo lc lz ll lm lg ld fc, bTown g od ad pe wo tx ch jo tr dy sd h_1, bTown g o a pe wo tx ch jo tr dy sd f]) H := hP
  have hD : va_D A (List.flatten [bFo g fo o lo od, bLaw g lo lc lz ll lm lg ld fc, bTown g od ad pe wo tx ch jo tr dy sd h_1, bTown g o a pe wo tx ch jo tr dy sd f]) := hD
  refine W.widen (k := 0) (n := 0) (Nat.le_of_ble_eq_true rfl) (Nat.le_of_ble_eq_true rfl) ?_
  refine W.eq (g2 := F0 m 11 ls []) rfl ?_
  have rh_1 := hq2; clear hq2
  refine lv_iconst (v := 0) hx hb dX0_greatestPrice_11 (by decide) ?_
  refine lv_istore_n (lv' := [(3, .int 0), (0, .ref fo), (1, .int n), (2, .int mu)]) hx hb dX0_greatestPrice_12 rfl hl (by decide) rfl (fun ls hl => ?_)
  refine lv_aload_n hx hb dX0_greatestPrice_13 rfl (lv_at hl 1 rfl) ?_
  refine va_get (D := g.1) (ci := 0) (v := .ref od) (C := RX0) (T := TX0) (N := 3) hx hb hts izRX0 hown hK hP 0 rfl rfl 2 (by decide) (hts _ k25) (fun _ h9 => h9) rfl dX0_greatestPrice_14 ?_
  refine mcallV' (g := g) (q0 := 0) (ci := 7) (As := []) (rest := []) St hK hT hA hP hD hS hl.1 [2] [0, 1, 3] rfl rfl rfl (c_sharePrice l g od ad pe wo tx ch jo tr dy sd h_1 b_pe b_wo rh_1) (cwV 0 hts (zgL (zl4 k187 k188 k189 k24) k186) rfl rfl rfl (by decide +kernel) ⟨Nat.le_of_ble_eq_true rfl, Nat.le_of_ble_eq_true rfl⟩) rfl rfl rfl rfl (Nat.le_of_ble_eq_true rfl) dX0_greatestPrice_17 ⟨(Nat.le_of_ble_eq_true rfl), (Nat.le_of_ble_eq_true rfl)⟩ (fun q_3 H locs hq4 hP hD hS => ?_)
  have hP : va_P g.1 vwCl (List.flatten [bFo g fo o lo od, bLaw g lo lc lz ll lm lg ld fc, bTown g o a pe wo tx ch jo tr dy sd f, bTown g od ad pe wo tx ch jo tr dy sd h_1]) H := hP
  have hD : va_D A (List.flatten [bFo g fo o lo od, bLaw g lo lc lz ll lm lg ld fc, bTown g o a pe wo tx ch jo tr dy sd f, bTown g od ad pe wo tx ch jo tr dy sd h_1]) := hD
  refine W.widen (k := 0) (n := 0) (Nat.le_of_ble_eq_true rfl) (Nat.le_of_ble_eq_true rfl) ?_
  refine W.eq (g2 := F0 m 20 ls [.int q_3]) rfl ?_
  refine lv_istore (lv' := [(4, .int q_3), (3, .int 0), (0, .ref fo), (1, .int n), (2, .int mu)]) hx hb dX0_greatestPrice_20 hl (by decide) rfl (fun ls hl => ?_)
  refine lv_iconst (v := 1) hx hb dX0_greatestPrice_22 (by decide) ?_
  refine lv_istore (lv' := [(5, .int 1), (4, .int q_3), (3, .int 0), (0, .ref fo), (1, .int n), (2, .int mu)]) hx hb dX0_greatestPrice_23 hl (by decide) rfl (fun ls hl => ?_)
  have hl := lv_sub (l' := [(0, .ref fo), (1, .int n), (2, .int mu), (3, .int 0), (4, .int q_3), (5, .int 1)]) hl [3, 4, 5, 2, 1, 0] rfl
  have LP25_17 : ∀ (kf : Nat) (x_5 : Int32) (x_6 : Int32) (x_7 : Int32) (x_8 : Int32) (x_9 : Int32) (x_10 : Int32) (x_11 : Int32) (x_12 : Int32) (x_13 : Int32) (f_14 : Nat → Nat → Int32), (0 ≤ x_5.toInt ∧ x_5.toInt ≤ 100) → (1 ≤ x_7.toInt ∧ x_7.toInt ≤ 101) → (zZ4 f_14) → ∀ (H : Heap) (locs : List Loc) (ls : Array Slot), ((102 - x_7.toInt).toNat) < kf → va_P g.1 vwCl (List.flatten [bFo g fo o lo od, bLaw g lo lc lz ll x_8 x_9 x_10 fc, bTown g o a pe wo tx ch jo tr dy sd f, bTown g od ad pe wo tx x_11 jo tr x_12 x_13 f_14]) H → va_D A (List.flatten [bFo g fo o lo od, bLaw g lo lc lz ll x_8 x_9 x_10 fc, bTown g o a pe wo tx ch jo tr dy sd f, bTown g od ad pe wo tx x_11 jo tr x_12 x_13 f_14]) → va_S A s.heap H locs → lv_has ls 6 [(0, .ref fo), (1, .int n), (2, .int mu), (3, .int x_5), (4, .int x_6), (5, .int x_7)] → W p l e ({ frames := 6, cells := 0, slots := 0, locals := 128 } : Room) s m args below meth c H locs (0) (0) (zF g (fun u : Int32 × Int32 × Int32 × Int32 × Int32 × Int32 × Int32 × Int32 × Int32 × Int32 × Int32 × (Nat → Nat → Int32) × Int32 => (fun (lm2 : Int32) (lg2 : Int32) (ld2 : Int32) (pe3 : Int32) (wo3 : Int32) (tx3 : Int32) (ch3 : Int32) (jo3 : Int32) (tr3 : Int32) (dy3 : Int32) (sd3 : Int32) (f3 : Nat → Nat → Int32) (q : Int32) => some (.int q)) (u.1) (u.2.1) (u.2.2.1) (u.2.2.2.1) (u.2.2.2.2.1) (u.2.2.2.2.2.1) (u.2.2.2.2.2.2.1) (u.2.2.2.2.2.2.2.1) (u.2.2.2.2.2.2.2.2.1) (u.2.2.2.2.2.2.2.2.2.1) (u.2.2.2.2.2.2.2.2.2.2.1) (u.2.2.2.2.2.2.2.2.2.2.2.1) (u.2.2.2.2.2.2.2.2.2.2.2.2)) (fun u : Int32 × Int32 × Int32 × Int32 × Int32 × Int32 × Int32 × Int32 × Int32 × Int32 × Int32 × (Nat → Nat → Int32) × Int32 => (fun (lm2 : Int32) (lg2 : Int32) (ld2 : Int32) (pe3 : Int32) (wo3 : Int32) (tx3 : Int32) (ch3 : Int32) (jo3 : Int32) (tr3 : Int32) (dy3 : Int32) (sd3 : Int32) (f3 : Nat → Nat → Int32) (q : Int32) => (0 ≤ pe3.toInt ∧ pe3.toInt ≤ 8) ∧ (0 ≤ wo3.toInt ∧ wo3.toInt ≤ 6) ∧ (zZ4 f3)) (u.1) (u.2.1) (u.2.2.1) (u.2.2.2.1) (u.2.2.2.2.1) (u.2.2.2.2.2.1) (u.2.2.2.2.2.2.1) (u.2.2.2.2.2.2.2.1) (u.2.2.2.2.2.2.2.2.1) (u.2.2.2.2.2.2.2.2.2.1) (u.2.2.2.2.2.2.2.2.2.2.1) (u.2.2.2.2.2.2.2.2.2.2.2.1) (u.2.2.2.2.2.2.2.2.2.2.2.2)) (fun u : Int32 × Int32 × Int32 × Int32 × Int32 × Int32 × Int32 × Int32 × Int32 × Int32 × Int32 × (Nat → Nat → Int32) × Int32 => (fun (lm2 : Int32) (lg2 : Int32) (ld2 : Int32) (pe3 : Int32) (wo3 : Int32) (tx3 : Int32) (ch3 : Int32) (jo3 : Int32) (tr3 : Int32) (dy3 : Int32) (sd3 : Int32) (f3 : Nat → Nat → Int32) (q : Int32) => [bFo g fo o lo od, bTown g o a pe wo tx ch jo tr dy sd f, bLaw g lo lc lz ll lm2 lg2 ld2 fc, bTown g od ad pe3 wo3 tx3 ch3 jo3 tr3 dy3 sd3 f3]) (u.1) (u.2.1) (u.2.2.1) (u.2.2.2.1) (u.2.2.2.2.1) (u.2.2.2.2.2.1) (u.2.2.2.2.2.2.1) (u.2.2.2.2.2.2.2.1) (u.2.2.2.2.2.2.2.2.1) (u.2.2.2.2.2.2.2.2.2.1) (u.2.2.2.2.2.2.2.2.2.2.1) (u.2.2.2.2.2.2.2.2.2.2.2.1) (u.2.2.2.2.2.2.2.2.2.2.2.2)) ({ frames := 6, cells := 0, slots := 0, locals := 128 } : Room) below args s A) (F0 m 25 ls []) := by
    intro kf
    induction kf with
    | zero => intro x_5 x_6 x_7 x_8 x_9 x_10 x_11 x_12 x_13 f_14 i15 i16 rf_14 H locs ls hk; exact absurd hk (Nat.not_lt_zero _)
    | succ kf ih25_18 =>
      intro x_5 x_6 x_7 x_8 x_9 x_10 x_11 x_12 x_13 f_14 i15 i16 rf_14 H locs ls hk25_18 hP hD hS hl
      refine lv_iload hx hb dX0_greatestPrice_25 (lv_at hl 5 rfl) ?_
      refine lv_iload_n hx hb dX0_greatestPrice_27 rfl (lv_at hl 1 rfl) ?_
      refine lv_icmp_gt (tgt := 75) hx hb dX0_greatestPrice_28 (by decide) (fun cb9 => ?_) (fun cb9 => ?_)
      · skip
        have c19 : n.toInt < x_7.toInt := zlti cb9 rfl rfl
        refine lv_iload_n hx hb dX0_greatestPrice_75 rfl (lv_at hl 2 rfl) ?_
        refine lv_if_eq (tgt := 84) hx hb dX0_greatestPrice_76 (by decide) (fun cb9 => ?_) (fun cb9 => ?_)
        · skip
          have c20 : mu.toInt = 0 := zeq cb9 rfl (by decide)
          have n21 : 0 ≤ mu.toInt := Int.le_trans (Int.le_refl _) (Int.le_of_eq c20.symm)
          have n22 : mu.toInt ≤ 0 := Int.le_trans (Int.le_of_eq c20) (Int.le_refl _)
          refine lv_iload_n hx hb dX0_greatestPrice_84 rfl (lv_at hl 3 rfl) ?_
          have hP : va_P g.1 vwCl (List.flatten [bFo g fo o lo od, bLaw g lo lc lz ll x_8 x_9 x_10 fc, bTown g o a pe wo tx ch jo tr dy sd f, bTown g od ad pe wo tx x_11 jo tr x_12 x_13 f_14]) H := hP
          have hD : va_D A (List.flatten [bFo g fo o lo od, bLaw g lo lc lz ll x_8 x_9 x_10 fc, bTown g o a pe wo tx ch jo tr dy sd f, bTown g od ad pe wo tx x_11 jo tr x_12 x_13 f_14]) := hD
          obtain ⟨hP, hD⟩ := zord (g := g) (Bs' := [bFo g fo o lo od, bTown g o a pe wo tx ch jo tr dy sd f, bLaw g lo lc lz ll x_8 x_9 x_10 fc, bTown g od ad pe wo tx x_11 jo tr x_12 x_13 f_14]) [0, 2, 1, 3] rfl rfl hP hD
          exact mret_i hx hb hr hlocks hS (Nat.le_of_ble_eq_true rfl) (Nat.le_of_ble_eq_true rfl) dX0_greatestPrice_85 (x_8, x_9, x_10, pe, wo, tx, x_11, jo, tr, x_12, x_13, f_14, x_5) rfl (show (0 ≤ pe.toInt ∧ pe.toInt ≤ 8) ∧ (0 ≤ wo.toInt ∧ wo.toInt ≤ 6) ∧ (zZ4 f_14) from ⟨b_pe, b_wo, rf_14⟩) hP hD
        · skip
          have c23 : ¬ mu.toInt = 0 := zne cb9 rfl (by decide)
          refine lv_iload hx hb dX0_greatestPrice_79 (lv_at hl 4 rfl) ?_
          refine lv_goto (tgt := 85) hx hb dX0_greatestPrice_81 (by decide) ?_
          have hP : va_P g.1 vwCl (List.flatten [bFo g fo o lo od, bLaw g lo lc lz ll x_8 x_9 x_10 fc, bTown g o a pe wo tx ch jo tr dy sd f, bTown g od ad pe wo tx x_11 jo tr x_12 x_13 f_14]) H := hP
          have hD : va_D A (List.flatten [bFo g fo o lo od, bLaw g lo lc lz ll x_8 x_9 x_10 fc, bTown g o a pe wo tx ch jo tr dy sd f, bTown g od ad pe wo tx x_11 jo tr x_12 x_13 f_14]) := hD
          obtain ⟨hP, hD⟩ := zord (g := g) (Bs' := [bFo g fo o lo od, bTown g o a pe wo tx ch jo tr dy sd f, bLaw g lo lc lz ll x_8 x_9 x_10 fc, bTown g od ad pe wo tx x_11 jo tr x_12 x_13 f_14]) [0, 2, 1, 3] rfl rfl hP hD
          exact mret_i hx hb hr hlocks hS (Nat.le_of_ble_eq_true rfl) (Nat.le_of_ble_eq_true rfl) dX0_greatestPrice_85 (x_8, x_9, x_10, pe, wo, tx, x_11, jo, tr, x_12, x_13, f_14, x_6) rfl (show (0 ≤ pe.toInt ∧ pe.toInt ≤ 8) ∧ (0 ≤ wo.toInt ∧ wo.toInt ≤ 6) ∧ (zZ4 f_14) from ⟨b_pe, b_wo, rf_14⟩) hP hD
      · skip
        have c24 : x_7.toInt ≤ n.toInt := zle (Int32.not_lt.mp cb9) rfl rfl
        have n25 : x_7.toInt ≤ 100 := Int.le_trans c24 b_n.2
        have n26 : 1 ≤ n.toInt := Int.le_trans i16.1 c24
        refine lv_aload_n hx hb dX0_greatestPrice_31 rfl (lv_at hl 0 rfl) ?_
        refine va_get (D := g.1) (ci := 0) (v := .ref od) (C := RX0) (T := TX0) (N := 3) hx hb hts izRX0 hown hK hP 0 rfl rfl 2 (by decide) (hts _ k25) (fun _ h9 => h9) rfl dX0_greatestPrice_32 ?_
        refine lv_aload_n hx hb dX0_greatestPrice_35 rfl (lv_at hl 0 rfl) ?_
        refine va_get (D := g.1) (ci := 0) (v := .ref lo) (C := RX0) (T := TX0) (N := 3) hx hb hts izRX0 hown hK hP 0 rfl rfl 1 (by decide) (hts _ k27) (fun _ h9 => h9) rfl dX0_greatestPrice_36 ?_
        refine lv_iconst (v := 0) hx hb dX0_greatestPrice_39 (by decide) ?_
        refine lv_null hx hb dX0_greatestPrice_40 ?_
        refine mcallV' (g := g) (q0 := 0) (ci := 7) (As := [.ref lo, .int 0, .null]) (rest := []) St hK hT hA hP hD hS hl.1 [3, 1] [0, 2] rfl rfl rfl (c_passDayN l g od ad pe wo tx x_11 jo tr x_12 x_13 f_14 lo lc lz ll x_8 x_9 x_10 fc 0 b_pe b_wo rf_14 b_lz) (cwV 3 hts (zgL (zl4 k160 k161 k162 k24) k154) rfl rfl rfl (by decide +kernel) ⟨Nat.le_of_ble_eq_true rfl, Nat.le_of_ble_eq_true rfl⟩) rfl rfl rfl rfl (Nat.le_of_ble_eq_true rfl) dX0_greatestPrice_41 ⟨(Nat.le_of_ble_eq_true rfl), (Nat.le_of_ble_eq_true rfl)⟩ (fun u_ H locs hq35 hP hD hS => ?_)
        obtain ⟨ch2_27, dy2_28, sd2_29, f2_30, lm2_31, lg2_32, ld2_33, q_34⟩ := u_
        replace hq35 : (zZ4 f2_30) := hq35
        have hP : va_P g.1 vwCl (List.flatten [bFo g fo o lo od, bTown g o a pe wo tx ch jo tr dy sd f, bTown g od ad pe wo tx ch2_27 jo tr dy2_28 sd2_29 f2_30, bLaw g lo lc lz ll lm2_31 lg2_32 ld2_33 fc]) H := hP
        have hD : va_D A (List.flatten [bFo g fo o lo od, bTown g o a pe wo tx ch jo tr dy sd f, bTown g od ad pe wo tx ch2_27 jo tr dy2_28 sd2_29 f2_30, bLaw g lo lc lz ll lm2_31 lg2_32 ld2_33 fc]) := hD
        refine W.widen (k := 0) (n := 0) (Nat.le_of_ble_eq_true rfl) (Nat.le_of_ble_eq_true rfl) ?_
        refine W.eq (g2 := F0 m 44 ls [.int q_34]) rfl ?_
        have rf2_30 := hq35; clear hq35
        refine lv_pop hx hb dX0_greatestPrice_44 rfl ?_
        refine lv_aload_n hx hb dX0_greatestPrice_45 rfl (lv_at hl 0 rfl) ?_
        refine va_get (D := g.1) (ci := 0) (v := .ref od) (C := RX0) (T := TX0) (N := 3) hx hb hts izRX0 hown hK hP 0 rfl rfl 2 (by decide) (hts _ k25) (fun _ h9 => h9) rfl dX0_greatestPrice_46 ?_
        refine mcallV' (g := g) (q0 := 0) (ci := 7) (As := []) (rest := []) St hK hT hA hP hD hS hl.1 [2] [0, 1, 3] rfl rfl rfl (c_sharePrice l g od ad pe wo tx ch2_27 jo tr dy2_28 sd2_29 f2_30 b_pe b_wo rf2_30) (cwV 0 hts (zgL (zl4 k187 k188 k189 k24) k186) rfl rfl rfl (by decide +kernel) ⟨Nat.le_of_ble_eq_true rfl, Nat.le_of_ble_eq_true rfl⟩) rfl rfl rfl rfl (Nat.le_of_ble_eq_true rfl) dX0_greatestPrice_49 ⟨(Nat.le_of_ble_eq_true rfl), (Nat.le_of_ble_eq_true rfl)⟩ (fun q_36 H locs hq37 hP hD hS => ?_)
        have hP : va_P g.1 vwCl (List.flatten [bFo g fo o lo od, bTown g o a pe wo tx ch jo tr dy sd f, bLaw g lo lc lz ll lm2_31 lg2_32 ld2_33 fc, bTown g od ad pe wo tx ch2_27 jo tr dy2_28 sd2_29 f2_30]) H := hP
        have hD : va_D A (List.flatten [bFo g fo o lo od, bTown g o a pe wo tx ch jo tr dy sd f, bLaw g lo lc lz ll lm2_31 lg2_32 ld2_33 fc, bTown g od ad pe wo tx ch2_27 jo tr dy2_28 sd2_29 f2_30]) := hD
        refine W.widen (k := 0) (n := 0) (Nat.le_of_ble_eq_true rfl) (Nat.le_of_ble_eq_true rfl) ?_
        refine W.eq (g2 := F0 m 52 ls [.int q_36]) rfl ?_
        refine lv_iload hx hb dX0_greatestPrice_52 (lv_at hl 4 rfl) ?_
        refine lv_icmp_le (tgt := 69) hx hb dX0_greatestPrice_54 (by decide) (fun cb9 => ?_) (fun cb9 => ?_)
        · skip
          have c38 : q_36.toInt ≤ x_6.toInt := zle cb9 rfl rfl
          refine ziinc3 (n' := 1) (a' := 2) (b' := 101) (lv' := fun v9 => [(5, .int v9), (0, .ref fo), (1, .int n), (2, .int mu), (3, .int x_5), (4, .int x_6)]) hx hb dX0_greatestPrice_69 hl (k := 5) rfl (by decide) (fun _ => rfl) (zaddK (i := x_7.toInt) (j := 1) rfl (by decide) i16.1 n25 (Int.le_refl _) (Int.le_refl _) (by decide)) (fun x_39 ls hx_39 hl => ?_)
          refine lv_goto (tgt := 25) hx hb dX0_greatestPrice_72 (by decide) ?_
          have hl := lv_sub (l' := [(0, .ref fo), (1, .int n), (2, .int mu), (3, .int x_5), (4, .int x_6), (5, .int x_39)]) hl [1, 2, 3, 4, 5, 0] rfl
          have hP : va_P g.1 vwCl (List.flatten [bFo g fo o lo od, bTown g o a pe wo tx ch jo tr dy sd f, bLaw g lo lc lz ll lm2_31 lg2_32 ld2_33 fc, bTown g od ad pe wo tx ch2_27 jo tr dy2_28 sd2_29 f2_30]) H := hP
          have hD : va_D A (List.flatten [bFo g fo o lo od, bTown g o a pe wo tx ch jo tr dy sd f, bLaw g lo lc lz ll lm2_31 lg2_32 ld2_33 fc, bTown g od ad pe wo tx ch2_27 jo tr dy2_28 sd2_29 f2_30]) := hD
          obtain ⟨hP, hD⟩ := zord (g := g) (Bs' := [bFo g fo o lo od, bLaw g lo lc lz ll lm2_31 lg2_32 ld2_33 fc, bTown g o a pe wo tx ch jo tr dy sd f, bTown g od ad pe wo tx ch2_27 jo tr dy2_28 sd2_29 f2_30]) [0, 2, 1, 3] rfl rfl hP hD
          have hP : va_P g.1 vwCl (List.flatten [bFo g fo o lo od, bLaw g lo lc lz ll lm2_31 lg2_32 ld2_33 fc, bTown g o a pe wo tx ch jo tr dy sd f, bTown g od ad pe wo tx ch2_27 jo tr dy2_28 sd2_29 f2_30]) H := hP
          have hD : va_D A (List.flatten [bFo g fo o lo od, bLaw g lo lc lz ll lm2_31 lg2_32 ld2_33 fc, bTown g o a pe wo tx ch jo tr dy sd f, bTown g od ad pe wo tx ch2_27 jo tr dy2_28 sd2_29 f2_30]) := hD
          exact ih25_18 x_5 x_6 x_39 lm2_31 lg2_32 ld2_33 ch2_27 dy2_28 sd2_29 f2_30 ⟨i15.1, i15.2⟩ ⟨(Int.le_trans (by decide) hx_39.2.1), hx_39.2.2⟩ rf2_30 H _ ls (zmK hx_39.1 (by decide) n25 (by decide) hk25_18)  hP hD hS (lv_sub hl [0, 1, 2, 3, 4, 5] rfl)
        · skip
          have c40 : x_6.toInt < q_36.toInt := zlti (Int32.not_le.mp cb9) rfl rfl
          refine lv_aload_n hx hb dX0_greatestPrice_57 rfl (lv_at hl 0 rfl) ?_
          refine va_get (D := g.1) (ci := 0) (v := .ref od) (C := RX0) (T := TX0) (N := 3) hx hb hts izRX0 hown hK hP 0 rfl rfl 2 (by decide) (hts _ k25) (fun _ h9 => h9) rfl dX0_greatestPrice_58 ?_
          refine mcallV' (g := g) (q0 := 0) (ci := 7) (As := []) (rest := []) St hK hT hA hP hD hS hl.1 [3] [0, 1, 2] rfl rfl rfl (c_sharePrice l g od ad pe wo tx ch2_27 jo tr dy2_28 sd2_29 f2_30 b_pe b_wo rf2_30) (cwV 0 hts (zgL (zl4 k187 k188 k189 k24) k186) rfl rfl rfl (by decide +kernel) ⟨Nat.le_of_ble_eq_true rfl, Nat.le_of_ble_eq_true rfl⟩) rfl rfl rfl rfl (Nat.le_of_ble_eq_true rfl) dX0_greatestPrice_61 ⟨(Nat.le_of_ble_eq_true rfl), (Nat.le_of_ble_eq_true rfl)⟩ (fun q_41 H locs hq42 hP hD hS => ?_)
          have hP : va_P g.1 vwCl (List.flatten [bFo g fo o lo od, bTown g o a pe wo tx ch jo tr dy sd f, bLaw g lo lc lz ll lm2_31 lg2_32 ld2_33 fc, bTown g od ad pe wo tx ch2_27 jo tr dy2_28 sd2_29 f2_30]) H := hP
          have hD : va_D A (List.flatten [bFo g fo o lo od, bTown g o a pe wo tx ch jo tr dy sd f, bLaw g lo lc lz ll lm2_31 lg2_32 ld2_33 fc, bTown g od ad pe wo tx ch2_27 jo tr dy2_28 sd2_29 f2_30]) := hD
          refine W.widen (k := 0) (n := 0) (Nat.le_of_ble_eq_true rfl) (Nat.le_of_ble_eq_true rfl) ?_
          refine W.eq (g2 := F0 m 64 ls [.int q_41]) rfl ?_
          refine lv_istore (lv' := [(4, .int q_41), (0, .ref fo), (1, .int n), (2, .int mu), (3, .int x_5), (5, .int x_7)]) hx hb dX0_greatestPrice_64 hl (by decide) rfl (fun ls hl => ?_)
          refine lv_iload hx hb dX0_greatestPrice_66 (lv_at hl 5 rfl) ?_
          refine lv_istore_n (lv' := [(3, .int x_7), (4, .int q_41), (0, .ref fo), (1, .int n), (2, .int mu), (5, .int x_7)]) hx hb dX0_greatestPrice_68 rfl hl (by decide) rfl (fun ls hl => ?_)
          refine ziinc3 (n' := 1) (a' := 2) (b' := 101) (lv' := fun v9 => [(5, .int v9), (3, .int x_7), (4, .int q_41), (0, .ref fo), (1, .int n), (2, .int mu)]) hx hb dX0_greatestPrice_69 hl (k := 5) rfl (by decide) (fun _ => rfl) (zaddK (i := x_7.toInt) (j := 1) rfl (by decide) i16.1 n25 (Int.le_refl _) (Int.le_refl _) (by decide)) (fun x_43 ls hx_43 hl => ?_)
          refine lv_goto (tgt := 25) hx hb dX0_greatestPrice_72 (by decide) ?_
          have hl := lv_sub (l' := [(0, .ref fo), (1, .int n), (2, .int mu), (3, .int x_7), (4, .int q_41), (5, .int x_43)]) hl [3, 4, 5, 1, 2, 0] rfl
          have hP : va_P g.1 vwCl (List.flatten [bFo g fo o lo od, bTown g o a pe wo tx ch jo tr dy sd f, bLaw g lo lc lz ll lm2_31 lg2_32 ld2_33 fc, bTown g od ad pe wo tx ch2_27 jo tr dy2_28 sd2_29 f2_30]) H := hP
          have hD : va_D A (List.flatten [bFo g fo o lo od, bTown g o a pe wo tx ch jo tr dy sd f, bLaw g lo lc lz ll lm2_31 lg2_32 ld2_33 fc, bTown g od ad pe wo tx ch2_27 jo tr dy2_28 sd2_29 f2_30]) := hD
          obtain ⟨hP, hD⟩ := zord (g := g) (Bs' := [bFo g fo o lo od, bLaw g lo lc lz ll lm2_31 lg2_32 ld2_33 fc, bTown g o a pe wo tx ch jo tr dy sd f, bTown g od ad pe wo tx ch2_27 jo tr dy2_28 sd2_29 f2_30]) [0, 2, 1, 3] rfl rfl hP hD
          have hP : va_P g.1 vwCl (List.flatten [bFo g fo o lo od, bLaw g lo lc lz ll lm2_31 lg2_32 ld2_33 fc, bTown g o a pe wo tx ch jo tr dy sd f, bTown g od ad pe wo tx ch2_27 jo tr dy2_28 sd2_29 f2_30]) H := hP
          have hD : va_D A (List.flatten [bFo g fo o lo od, bLaw g lo lc lz ll lm2_31 lg2_32 ld2_33 fc, bTown g o a pe wo tx ch jo tr dy sd f, bTown g od ad pe wo tx ch2_27 jo tr dy2_28 sd2_29 f2_30]) := hD
          exact ih25_18 x_7 q_41 x_43 lm2_31 lg2_32 ld2_33 ch2_27 dy2_28 sd2_29 f2_30 ⟨(Int.le_trans (by decide) i16.1), n25⟩ ⟨(Int.le_trans (by decide) hx_43.2.1), hx_43.2.2⟩ rf2_30 H _ ls (zmK hx_43.1 (by decide) n25 (by decide) hk25_18)  hP hD hS (lv_sub hl [0, 1, 2, 3, 4, 5] rfl)
  have hP : va_P g.1 vwCl (List.flatten [bFo g fo o lo od, bLaw g lo lc lz ll lm lg ld fc, bTown g o a pe wo tx ch jo tr dy sd f, bTown g od ad pe wo tx ch jo tr dy sd h_1]) H := hP
  have hD : va_D A (List.flatten [bFo g fo o lo od, bLaw g lo lc lz ll lm lg ld fc, bTown g o a pe wo tx ch jo tr dy sd f, bTown g od ad pe wo tx ch jo tr dy sd h_1]) := hD
  exact LP25_17 _ 0 q_3 1 lm lg ld ch dy sd h_1 (by decide) (by decide) rh_1 H _ ls (Nat.lt_succ_self _)  hP hD hS (lv_sub hl [0, 1, 2, 3, 4, 5] rfl)
