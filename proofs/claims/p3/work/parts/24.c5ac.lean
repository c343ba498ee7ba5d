set_option maxRecDepth 100000 in
set_option maxHeartbeats 4000000 in
theorem c_f_fewestTold (l : Launch) (g : zG) (fo : Nat) (o : Nat) (lo : Nat) (od : Nat) (a : Nat → Nat) (pe : Int32) (wo : Int32) (tx : Int32) (ch : Int32) (jo : Int32) (tr : Int32) (dy : Int32) (sd : Int32) (f : Nat → Nat → Int32) (lc : Nat) (lz : Int32) (ll : Int32) (lm : Int32) (lg : Int32) (ld : Int32) (fc : Nat → Int32) (ad : Nat → Nat) (ped : Int32) (wod : Int32) (txd : Int32) (chd : Int32) (jod : Int32) (trd : Int32) (dyd : Int32) (sdd : Int32) (fd : Nat → Nat → Int32) (xx : Int32) (n : Int32) (b_pe : 0 ≤ pe.toInt ∧ pe.toInt ≤ 8) (b_wo : 0 ≤ wo.toInt ∧ wo.toInt ≤ 6) (rf : zZ4 f) (b_lz : 0 ≤ lz.toInt ∧ lz.toInt ≤ 400) (b_ped : 0 ≤ ped.toInt ∧ ped.toInt ≤ 8) (b_wod : 0 ≤ wod.toInt ∧ wod.toInt ≤ 6) (rfd : zZ4 fd) (b_n : 0 ≤ n.toInt ∧ n.toInt ≤ 100) : zM' g l yX0_fewestTold (Cond.code yX0_fewestTold cX0_fewestTold 6 (some .int) :: zB) ({ frames := 7, cells := 0, slots := 0, locals := 152 } : Room) [.ref fo, .int xx, .int n] [bFo g fo o lo od, bTown g o a pe wo tx ch jo tr dy sd f, bLaw g lo lc lz ll lm lg ld fc, bTown g od ad ped wod txd chd jod trd dyd sdd fd] (fun u : Int32 × Int32 × Int32 × Int32 × Int32 × Int32 × Int32 × Int32 × Int32 × Int32 × Int32 × (Nat → Nat → Int32) × Int32 => (fun (lm2 : Int32) (lg2 : Int32) (ld2 : Int32) (pe3 : Int32) (wo3 : Int32) (tx3 : Int32) (ch3 : Int32) (jo3 : Int32) (tr3 : Int32) (dy3 : Int32) (sd3 : Int32) (f3 : Nat → Nat → Int32) (q : Int32) => some (.int q)) (u.1) (u.2.1) (u.2.2.1) (u.2.2.2.1) (u.2.2.2.2.1) (u.2.2.2.2.2.1) (u.2.2.2.2.2.2.1) (u.2.2.2.2.2.2.2.1) (u.2.2.2.2.2.2.2.2.1) (u.2.2.2.2.2.2.2.2.2.1) (u.2.2.2.2.2.2.2.2.2.2.1) (u.2.2.2.2.2.2.2.2.2.2.2.1) (u.2.2.2.2.2.2.2.2.2.2.2.2)) (fun u : Int32 × Int32 × Int32 × Int32 × Int32 × Int32 × Int32 × Int32 × Int32 × Int32 × Int32 × (Nat → Nat → Int32) × Int32 => (fun (lm2 : Int32) (lg2 : Int32) (ld2 : Int32) (pe3 : Int32) (wo3 : Int32) (tx3 : Int32) (ch3 : Int32) (jo3 : Int32) (tr3 : Int32) (dy3 : Int32) (sd3 : Int32) (f3 : Nat → Nat → Int32) (q : Int32) => (0 ≤ pe3.toInt ∧ pe3.toInt ≤ 8) ∧ (0 ≤ wo3.toInt ∧ wo3.toInt ≤ 6) ∧ (zZ4 f3)) (u.1) (u.2.1) (u.2.2.1) (u.2.2.2.1) (u.2.2.2.2.1) (u.2.2.2.2.2.1) (u.2.2.2.2.2.2.1) (u.2.2.2.2.2.2.2.1) (u.2.2.2.2.2.2.2.2.1) (u.2.2.2.2.2.2.2.2.2.1) (u.2.2.2.2.2.2.2.2.2.2.1) (u.2.2.2.2.2.2.2.2.2.2.2.1) (u.2.2.2.2.2.2.2.2.2.2.2.2)) (fun u : Int32 × Int32 × Int32 × Int32 × Int32 × Int32 × Int32 × Int32 × Int32 × Int32 × Int32 × (Nat → Nat → Int32) × Int32 => (fun (lm2 : Int32) (lg2 : Int32) (ld2 : Int32) (pe3 : Int32) (wo3 : Int32) (tx3 : Int32) (ch3 : Int32) (jo3 : Int32) (tr3 : Int32) (dy3 : Int32) (sd3 : Int32) (f3 : Nat → Nat → Int32) (q : Int32) => [bFo g fo o lo od, bTown g o a pe wo tx ch jo tr dy sd f, bLaw g lo lc lz ll lm2 lg2 ld2 fc, bTown g od ad pe3 wo3 tx3 ch3 jo3 tr3 dy3 sd3 f3]) (u.1) (u.2.1) (u.2.2.1) (u.2.2.2.1) (u.2.2.2.2.1) (u.2.2.2.2.2.1) (u.2.2.2.2.2.2.1) (u.2.2.2.2.2.2.2.1) (u.2.2.2.2.2.2.2.2.1) (u.2.2.2.2.2.2.2.2.2.1) (u.2.2.2.2.2.2.2.2.2.2.1) (u.2.2.2.2.2.2.2.2.2.2.2.1) (u.2.2.2.2.2.2.2.2.2.2.2.2)) := by
  refine zM'.of (cc := cX0_fewestTold) (maxL := 6) (rt := (some .int)) (by decide) rfl (Nat.le_of_ble_eq_true rfl) ?_
  intro p e s m args below meth c A ls St hr hlocks hin hK hT hA hP hD hS hl
  obtain ⟨hx, hb, hml, hown, hts⟩ := id St
  have hl : lv_has ls 6 [(0, .ref fo), (1, .int xx), (2, .int n)] := hl
  refine lv_aload_n hx hb dX0_fewestTold_0 rfl (lv_at hl 0 rfl) ?_
  refine va_get (D := g.1) (ci := 0) (v := .ref o) (C := RX0) (T := TX0) (N := 3) hx hb hts izRX0 hown hK hP 0 rfl rfl 0 (by decide) (hts _ k26) (fun _ h9 => h9) rfl dX0_fewestTold_1 ?_
  refine mcallV' (g := g) (q0 := 0) (ci := 7) (As := []) (rest := []) St hK hT hA hP hD hS hl.1 [1] [0, 2, 3] rfl rfl rfl (c_peopleHere l g o a pe wo tx ch jo tr dy sd f b_pe b_wo rf) (cwV 0 hts (zgL (zl4 k171 k63 k64 k24) k52) rfl rfl rfl (by decide +kernel) ⟨Nat.le_of_ble_eq_true rfl, Nat.le_of_ble_eq_true rfl⟩) rfl rfl rfl rfl (Nat.le_of_ble_eq_true rfl) dX0_fewestTold_4 ⟨(Nat.le_of_ble_eq_true rfl), (Nat.le_of_ble_eq_true rfl)⟩ (fun q_1 H locs hq2 hP hD hS => ?_)
  have hP : va_P g.1 vwCl (List.flatten [bFo g fo o lo od, bLaw g lo lc lz ll lm lg ld fc, bTown g od ad ped wod txd chd jod trd dyd sdd fd, bTown g o a pe wo tx ch jo tr dy sd f]) H := hP
  have hD : va_D A (List.flatten [bFo g fo o lo od, bLaw g lo lc lz ll lm lg ld fc, bTown g od ad ped wod txd chd jod trd dyd sdd fd, bTown g o a pe wo tx ch jo tr dy sd f]) := hD
  refine W.widen (k := 0) (n := 0) (Nat.le_of_ble_eq_true rfl) (Nat.le_of_ble_eq_true rfl) ?_
  refine W.eq (g2 := F0 m 7 ls [.int q_1]) rfl ?_
  refine lv_istore_n (lv' := [(3, .int q_1), (0, .ref fo), (1, .int xx), (2, .int n)]) hx hb dX0_fewestTold_7 rfl hl (by decide) rfl (fun ls hl => ?_)
  refine lv_iconst (v := 0) hx hb dX0_fewestTold_8 (by decide) ?_
  refine lv_istore (lv' := [(4, .int 0), (3, .int q_1), (0, .ref fo), (1, .int xx), (2, .int n)]) hx hb dX0_fewestTold_9 hl (by decide) rfl (fun ls hl => ?_)
  have hl := lv_sub (l' := [(0, .ref fo), (1, .int xx), (2, .int n), (3, .int q_1), (4, .int 0)]) hl [2, 3, 4, 1, 0] rfl
  have LP11_19 : ∀ (kf : Nat) (x_3 : Int32) (x_4 : Int32) (x_5 : Int32) (x_6 : Int32) (x_7 : Int32) (x_8 : Int32) (x_9 : Int32) (x_10 : Int32) (x_11 : Int32) (x_12 : Int32) (x_13 : Int32) (x_14 : Int32) (f_15 : Nat → Nat → Int32), (0 ≤ x_3.toInt ∧ x_3.toInt ≤ 9) → (0 ≤ x_7.toInt ∧ x_7.toInt ≤ 8) → (0 ≤ x_8.toInt ∧ x_8.toInt ≤ 6) → (zZ4 f_15) → ∀ (H : Heap) (locs : List Loc) (ls : Array Slot), ((10 - x_3.toInt).toNat) < kf → va_P g.1 vwCl (List.flatten [bFo g fo o lo od, bLaw g lo lc lz ll x_4 x_5 x_6 fc, bTown g od ad x_7 x_8 x_9 x_10 x_11 x_12 x_13 x_14 f_15, bTown g o a pe wo tx ch jo tr dy sd f]) H → va_D A (List.flatten [bFo g fo o lo od, bLaw g lo lc lz ll x_4 x_5 x_6 fc, bTown g od ad x_7 x_8 x_9 x_10 x_11 x_12 x_13 x_14 f_15, bTown g o a pe wo tx ch jo tr dy sd f]) → va_S A s.heap H locs → lv_has ls 6 [(0, .ref fo), (1, .int xx), (2, .int n), (3, .int q_1), (4, .int x_3)] → W p l e ({ frames := 7, cells := 0, slots := 0, locals := 152 } : Room) s m args below meth c H locs (0) (0) (zF g (fun u : Int32 × Int32 × Int32 × Int32 × Int32 × Int32 × Int32 × Int32 × Int32 × Int32 × Int32 × (Nat → Nat → Int32) × Int32 => (fun (lm2 : Int32) (lg2 : Int32) (ld2 : Int32) (pe3 : Int32) (wo3 : Int32) (tx3 : Int32) (ch3 : Int32) (jo3 : Int32) (tr3 : Int32) (dy3 : Int32) (sd3 : Int32) (f3 : Nat → Nat → Int32) (q : Int32) => some (.int q)) (u.1) (u.2.1) (u.2.2.1) (u.2.2.2.1) (u.2.2.2.2.1) (u.2.2.2.2.2.1) (u.2.2.2.2.2.2.1) (u.2.2.2.2.2.2.2.1) (u.2.2.2.2.2.2.2.2.1) (u.2.2.2.2.2.2.2.2.2.1) (u.2.2.2.2.2.2.2.2.2.2.1) (u.2.2.2.2.2.2.2.2.2.2.2.1) (u.2.2.2.2.2.2.2.2.2.2.2.2)) (fun u : Int32 × Int32 × Int32 × Int32 × Int32 × Int32 × Int32 × Int32 × Int32 × Int32 × Int32 × (Nat → Nat → Int32) × Int32 => (fun (lm2 : Int32) (lg2 : Int32) (ld2 : Int32) (pe3 : Int32) (wo3 : Int32) (tx3 : Int32) (ch3 : Int32) (jo3 : Int32) (tr3 : Int32) (dy3 : Int32) (sd3 : Int32) (f3 : Nat → Nat → Int32) (q : Int32) => (0 ≤ pe3.toInt ∧ pe3.toInt ≤ 8) ∧ (0 ≤ wo3.toInt ∧ wo3.toInt ≤ 6) ∧ (zZ4 f3)) (u.1) (u.2.1) (u.2.2.1) (u.2.2.2.1) (u.2.2.2.2.1) (u.2.2.2.2.2.1) (u.2.2.2.2.2.2.1) (u.2.2.2.2.2.2.2.1) (u.2.2.2.2.2.2.2.2.1) (u.2.2.2.2.2.2.2.2.2.1) (u.2.2.2.2.2.2.2.2.2.2.1) (u.2.2.2.2.2.2.2.2.2.2.2.1) (u.2.2.2.2.2.2.2.2.2.2.2.2)) (fun u : Int32 × Int32 × Int32 × Int32 × Int32 × Int32 × Int32 × Int32 × Int32 × Int32 × Int32 × (Nat → Nat → Int32) × Int32 => (fun (lm2 : Int32) (lg2 : Int32) (ld2 : Int32) (pe3 : Int32) (wo3 : Int32) (tx3 : Int32) (ch3 : Int32) (jo3 : Int32) (tr3 : Int32) (dy3 : Int32) (sd3 : Int32) (f3 : Nat → Nat → Int32) (q : Int32) => [bFo g fo o lo od, bTown g o a pe wo tx ch jo tr dy sd f, bLaw g lo lc lz ll lm2 lg2 ld2 fc, bTown g od ad pe3 wo3 tx3 ch3 jo3 tr3 dy3 sd3 f3]) (u.1) (u.2.1) (u.2.2.1) (u.2.2.2.1) (u.2.2.2.2.1) (u.2.2.2.2.2.1) (u.2.2.2.2.2.2.1) (u.2.2.2.2.2.2.2.1) (u.2.2.2.2.2.2.2.2.1) (u.2.2.2.2.2.2.2.2.2.1) (u.2.2.2.2.2.2.2.2.2.2.1) (u.2.2.2.2.2.2.2.2.2.2.2.1) (u.2.2.2.2.2.2.2.2.2.2.2.2)) ({ frames := 7, cells := 0, slots := 0, locals := 152 } : Room) below args s A) (F0 m 11 ls []) := by
    intro kf
    induction kf with
    | zero => intro x_3 x_4 x_5 x_6 x_7 x_8 x_9 x_10 x_11 x_12 x_13 x_14 f_15 i16 i17 i18 rf_15 H locs ls hk; exact absurd hk (Nat.not_lt_zero _)
    | succ kf ih11_20 =>
      intro x_3 x_4 x_5 x_6 x_7 x_8 x_9 x_10 x_11 x_12 x_13 x_14 f_15 i16 i17 i18 rf_15 H locs ls hk11_20 hP hD hS hl
      refine lv_iload hx hb dX0_fewestTold_11 (lv_at hl 4 rfl) ?_
      refine lv_aload_n hx hb dX0_fewestTold_13 rfl (lv_at hl 0 rfl) ?_
      refine va_get (D := g.1) (ci := 0) (v := .ref o) (C := RX0) (T := TX0) (N := 3) hx hb hts izRX0 hown hK hP 0 rfl rfl 0 (by decide) (hts _ k26) (fun _ h9 => h9) rfl dX0_fewestTold_14 ?_
      refine va_get (D := g.1) (ci := 7) (v := .int pe) (C := RX9) (T := TX9) (N := 19) hx hb hts izRX9 hown hK hP 15 rfl rfl 0 (by decide) (hts _ k155) (fun _ h9 => h9) rfl dX0_fewestTold_17 ?_
      refine lv_icmp_gt (tgt := 87) hx hb dX0_fewestTold_20 (by decide) (fun cb9 => ?_) (fun cb9 => ?_)
      · skip
        have c21 : pe.toInt < x_3.toInt := zlti cb9 rfl rfl
        have n22 : 1 ≤ x_3.toInt := zL2 (a := 0) c21 b_pe.1 (by decide)
        refine lv_iconst (v := (-1)) hx hb dX0_fewestTold_87 (by decide) ?_
        have hP : va_P g.1 vwCl (List.flatten [bFo g fo o lo od, bLaw g lo lc lz ll x_4 x_5 x_6 fc, bTown g od ad x_7 x_8 x_9 x_10 x_11 x_12 x_13 x_14 f_15, bTown g o a pe wo tx ch jo tr dy sd f]) H := hP
        have hD : va_D A (List.flatten [bFo g fo o lo od, bLaw g lo lc lz ll x_4 x_5 x_6 fc, bTown g od ad x_7 x_8 x_9 x_10 x_11 x_12 x_13 x_14 f_15, bTown g o a pe wo tx ch jo tr dy sd f]) := hD
        obtain ⟨hP, hD⟩ := zord (g := g) (Bs' := [bFo g fo o lo od, bTown g o a pe wo tx ch jo tr dy sd f, bLaw g lo lc lz ll x_4 x_5 x_6 fc, bTown g od ad x_7 x_8 x_9 x_10 x_11 x_12 x_13 x_14 f_15]) [0, 3, 1, 2] rfl rfl hP hD
        exact mret_i hx hb hr hlocks hS (Nat.le_of_ble_eq_true rfl) (Nat.le_of_ble_eq_true rfl) dX0_fewestTold_88 (x_4, x_5, x_6, x_7, x_8, x_9, x_10, x_11, x_12, x_13, x_14, f_15, -1) rfl (show (0 ≤ x_7.toInt ∧ x_7.toInt ≤ 8) ∧ (0 ≤ x_8.toInt ∧ x_8.toInt ≤ 6) ∧ (zZ4 f_15) from ⟨i17, i18, rf_15⟩) hP hD
      · skip
        have c23 : x_3.toInt ≤ pe.toInt := zle (Int32.not_lt.mp cb9) rfl rfl
        have n24 : x_3.toInt ≤ 8 := Int.le_trans c23 b_pe.2
        refine lv_iconst (v := 0) hx hb dX0_fewestTold_23 (by decide) ?_
        refine lv_istore (lv' := [(5, .int 0), (0, .ref fo), (1, .int xx), (2, .int n), (3, .int q_1), (4, .int x_3)]) hx hb dX0_fewestTold_24 hl (by decide) rfl (fun ls hl => ?_)
        have hl := lv_sub (l' := [(0, .ref fo), (1, .int xx), (2, .int n), (3, .int q_1), (4, .int x_3), (5, .int 0)]) hl [1, 2, 3, 4, 5, 0] rfl
        have LP26_41 : ∀ (kf : Nat) (x_25 : Int32) (x_26 : Int32) (x_27 : Int32) (x_28 : Int32) (x_29 : Int32) (x_30 : Int32) (x_31 : Int32) (x_32 : Int32) (x_33 : Int32) (x_34 : Int32) (x_35 : Int32) (x_36 : Int32) (f_37 : Nat → Nat → Int32), (0 ≤ x_25.toInt ∧ x_25.toInt ≤ 256) → (0 ≤ x_29.toInt ∧ x_29.toInt ≤ 8) → (0 ≤ x_30.toInt ∧ x_30.toInt ≤ 6) → (zZ4 f_37) → ∀ (H : Heap) (locs : List Loc) (ls : Array Slot), ((257 - x_25.toInt).toNat) < kf → va_P g.1 vwCl (List.flatten [bFo g fo o lo od, bLaw g lo lc lz ll x_26 x_27 x_28 fc, bTown g od ad x_29 x_30 x_31 x_32 x_33 x_34 x_35 x_36 f_37, bTown g o a pe wo tx ch jo tr dy sd f]) H → va_D A (List.flatten [bFo g fo o lo od, bLaw g lo lc lz ll x_26 x_27 x_28 fc, bTown g od ad x_29 x_30 x_31 x_32 x_33 x_34 x_35 x_36 f_37, bTown g o a pe wo tx ch jo tr dy sd f]) → va_S A s.heap H locs → lv_has ls 6 [(0, .ref fo), (1, .int xx), (2, .int n), (3, .int q_1), (4, .int x_3), (5, .int x_25)] → W p l e ({ frames := 7, cells := 0, slots := 0, locals := 152 } : Room) s m args below meth c H locs (0) (0) (zF g (fun u : Int32 × Int32 × Int32 × Int32 × Int32 × Int32 × Int32 × Int32 × Int32 × Int32 × Int32 × (Nat → Nat → Int32) × Int32 => (fun (lm2 : Int32) (lg2 : Int32) (ld2 : Int32) (pe3 : Int32) (wo3 : Int32) (tx3 : Int32) (ch3 : Int32) (jo3 : Int32) (tr3 : Int32) (dy3 : Int32) (sd3 : Int32) (f3 : Nat → Nat → Int32) (q : Int32) => some (.int q)) (u.1) (u.2.1) (u.2.2.1) (u.2.2.2.1) (u.2.2.2.2.1) (u.2.2.2.2.2.1) (u.2.2.2.2.2.2.1) (u.2.2.2.2.2.2.2.1) (u.2.2.2.2.2.2.2.2.1) (u.2.2.2.2.2.2.2.2.2.1) (u.2.2.2.2.2.2.2.2.2.2.1) (u.2.2.2.2.2.2.2.2.2.2.2.1) (u.2.2.2.2.2.2.2.2.2.2.2.2)) (fun u : Int32 × Int32 × Int32 × Int32 × Int32 × Int32 × Int32 × Int32 × Int32 × Int32 × Int32 × (Nat → Nat → Int32) × Int32 => (fun (lm2 : Int32) (lg2 : Int32) (ld2 : Int32) (pe3 : Int32) (wo3 : Int32) (tx3 : Int32) (ch3 : Int32) (jo3 : Int32) (tr3 : Int32) (dy3 : Int32) (sd3 : Int32) (f3 : Nat → Nat → Int32) (q : Int32) => (0 ≤ pe3.toInt ∧ pe3.toInt ≤ 8) ∧ (0 ≤ wo3.toInt ∧ wo3.toInt ≤ 6) ∧ (zZ4 f3)) (u.1) (u.2.1) (u.2.2.1) (u.2.2.2.1) (u.2.2.2.2.1) (u.2.2.2.2.2.1) (u.2.2.2.2.2.2.1) (u.2.2.2.2.2.2.2.1) (u.2.2.2.2.2.2.2.2.1) (u.2.2.2.2.2.2.2.2.2.1) (u.2.2.2.2.2.2.2.2.2.2.1) (u.2.2.2.2.2.2.2.2.2.2.2.1) (u.2.2.2.2.2.2.2.2.2.2.2.2)) (fun u : Int32 × Int32 × Int32 × Int32 × Int32 × Int32 × Int32 × Int32 × Int32 × Int32 × Int32 × (Nat → Nat → Int32) × Int32 => (fun (lm2 : Int32) (lg2 : Int32) (ld2 : Int32) (pe3 : Int32) (wo3 : Int32) (tx3 : Int32) (ch3 : Int32) (jo3 : Int32) (tr3 : Int32) (dy3 : Int32) (sd3 : Int32) (f3 : Nat → Nat → Int32) (q : Int32) => [bFo g fo o lo od, bTown g o a pe wo tx ch jo tr dy sd f, bLaw g lo lc lz ll lm2 lg2 ld2 fc, bTown g od ad pe3 wo3 tx3 ch3 jo3 tr3 dy3 sd3 f3]) (u.1) (u.2.1) (u.2.2.1) (u.2.2.2.1) (u.2.2.2.2.1) (u.2.2.2.2.2.1) (u.2.2.2.2.2.2.1) (u.2.2.2.2.2.2.2.1) (u.2.2.2.2.2.2.2.2.1) (u.2.2.2.2.2.2.2.2.2.1) (u.2.2.2.2.2.2.2.2.2.2.1) (u.2.2.2.2.2.2.2.2.2.2.2.1) (u.2.2.2.2.2.2.2.2.2.2.2.2)) ({ frames := 7, cells := 0, slots := 0, locals := 152 } : Room) below args s A) (F0 m 26 ls []) := by
          intro kf
          induction kf with
          | zero => intro x_25 x_26 x_27 x_28 x_29 x_30 x_31 x_32 x_33 x_34 x_35 x_36 f_37 i38 i39 i40 rf_37 H locs ls hk; exact absurd hk (Nat.not_lt_zero _)
          | succ kf ih26_42 =>
            intro x_25 x_26 x_27 x_28 x_29 x_30 x_31 x_32 x_33 x_34 x_35 x_36 f_37 i38 i39 i40 rf_37 H locs ls hk26_42 hP hD hS hl
            refine lv_iload hx hb dX0_fewestTold_26 (lv_at hl 5 rfl) ?_
            refine lv_iconst (v := 1) hx hb dX0_fewestTold_28 (by decide) ?_
            refine lv_aload_n hx hb dX0_fewestTold_29 rfl (lv_at hl 0 rfl) ?_
            refine va_get (D := g.1) (ci := 0) (v := .ref o) (C := RX0) (T := TX0) (N := 3) hx hb hts izRX0 hown hK hP 0 rfl rfl 0 (by decide) (hts _ k26) (fun _ h9 => h9) rfl dX0_fewestTold_30 ?_
            refine va_get (D := g.1) (ci := 7) (v := .int pe) (C := RX9) (T := TX9) (N := 19) hx hb hts izRX9 hown hK hP 15 rfl rfl 0 (by decide) (hts _ k155) (fun _ h9 => h9) rfl dX0_fewestTold_33 ?_
            refine lv_ishl hx hb dX0_fewestTold_36 ?_
            refine zgb (zshl1 (j := pe.toInt) rfl 8 256 (by decide) (by decide) ⟨b_pe.1, b_pe.2⟩) (fun x_43 hx_43 => ?_)
            refine lv_icmp_ge (tgt := 81) hx hb dX0_fewestTold_37 (by decide) (fun cb9 => ?_) (fun cb9 => ?_)
            · skip
              have c44 : x_43.toInt ≤ x_25.toInt := zle cb9 rfl rfl
              have n45 : 1 ≤ x_25.toInt := Int.le_trans hx_43.1 c44
              refine ziinc3 (n' := 1) (a' := 1) (b' := 9) (lv' := fun v9 => [(4, .int v9), (0, .ref fo), (1, .int xx), (2, .int n), (3, .int q_1), (5, .int x_25)]) hx hb dX0_fewestTold_81 hl (k := 4) rfl (by decide) (fun _ => rfl) (zaddK (i := x_3.toInt) (j := 1) rfl (by decide) i16.1 n24 (Int.le_refl _) (Int.le_refl _) (by decide)) (fun x_46 ls hx_46 hl => ?_)
              refine lv_goto (tgt := 11) hx hb dX0_fewestTold_84 (by decide) ?_
              have hl := lv_sub (l' := [(0, .ref fo), (1, .int xx), (2, .int n), (3, .int q_1), (4, .int x_46), (5, .int x_25)]) hl [1, 2, 3, 4, 0, 5] rfl
              have hP : va_P g.1 vwCl (List.flatten [bFo g fo o lo od, bLaw g lo lc lz ll x_26 x_27 x_28 fc, bTown g od ad x_29 x_30 x_31 x_32 x_33 x_34 x_35 x_36 f_37, bTown g o a pe wo tx ch jo tr dy sd f]) H := hP
              have hD : va_D A (List.flatten [bFo g fo o lo od, bLaw g lo lc lz ll x_26 x_27 x_28 fc, bTown g od ad x_29 x_30 x_31 x_32 x_33 x_34 x_35 x_36 f_37, bTown g o a pe wo tx ch jo tr dy sd f]) := hD
              exact ih11_20 x_46 x_26 x_27 x_28 x_29 x_30 x_31 x_32 x_33 x_34 x_35 x_36 f_37 ⟨(Int.le_trans (by decide) hx_46.2.1), hx_46.2.2⟩ ⟨i39.1, i39.2⟩ ⟨i40.1, i40.2⟩ rf_37 H _ ls (zmK hx_46.1 (by decide) n24 (by decide) hk11_20)  hP hD hS (lv_sub hl [0, 1, 2, 3, 4] rfl)
            · skip
              have c47 : x_25.toInt < x_43.toInt := zlti (Int32.not_le.mp cb9) rfl rfl
              have n48 : x_25.toInt ≤ 255 := zL1 (b := 256) c47 hx_43.2 (by decide)
              refine lv_iload hx hb dX0_fewestTold_40 (lv_at hl 5 rfl) ?_
              refine mcallS' (g := g) (As := [.int x_25]) (rest := []) St hK hT hA hP hD hS hl.1 [] [0, 1, 2, 3] rfl rfl rfl (j_bitCount l g x_25 ) (va_cwS 1 hts (zgL (zl3 k172 k66 k67) k56) rfl rfl rfl (by decide +kernel) ⟨Nat.le_of_ble_eq_true rfl, Nat.le_of_ble_eq_true rfl⟩) rfl rfl (Nat.le_of_ble_eq_true rfl) dX0_fewestTold_42 ⟨(Nat.le_of_ble_eq_true rfl), (Nat.le_of_ble_eq_true rfl)⟩ (fun q_49 H locs hq50 hP hD hS => ?_)
              have hP : va_P g.1 vwCl (List.flatten [bFo g fo o lo od, bLaw g lo lc lz ll x_26 x_27 x_28 fc, bTown g od ad x_29 x_30 x_31 x_32 x_33 x_34 x_35 x_36 f_37, bTown g o a pe wo tx ch jo tr dy sd f]) H := hP
              have hD : va_D A (List.flatten [bFo g fo o lo od, bLaw g lo lc lz ll x_26 x_27 x_28 fc, bTown g od ad x_29 x_30 x_31 x_32 x_33 x_34 x_35 x_36 f_37, bTown g o a pe wo tx ch jo tr dy sd f]) := hD
              refine W.widen (k := 0) (n := 0) (Nat.le_of_ble_eq_true rfl) (Nat.le_of_ble_eq_true rfl) ?_
              refine W.eq (g2 := F0 m 45 ls [.int q_49]) rfl ?_
              refine lv_iload hx hb dX0_fewestTold_45 (lv_at hl 4 rfl) ?_
              refine lv_icmp_ne (tgt := 75) hx hb dX0_fewestTold_47 (by decide) (fun cb9 => ?_) (fun cb9 => ?_)
              · skip
                have c51 : ¬ q_49.toInt = x_3.toInt := zne cb9 rfl rfl
                refine ziinc3 (n' := 1) (a' := 1) (b' := 256) (lv' := fun v9 => [(5, .int v9), (0, .ref fo), (1, .int xx), (2, .int n), (3, .int q_1), (4, .int x_3)]) hx hb dX0_fewestTold_75 hl (k := 5) rfl (by decide) (fun _ => rfl) (zaddK (i := x_25.toInt) (j := 1) rfl (by decide) i38.1 n48 (Int.le_refl _) (Int.le_refl _) (by decide)) (fun x_52 ls hx_52 hl => ?_)
                refine lv_goto (tgt := 26) hx hb dX0_fewestTold_78 (by decide) ?_
                have hl := lv_sub (l' := [(0, .ref fo), (1, .int xx), (2, .int n), (3, .int q_1), (4, .int x_3), (5, .int x_52)]) hl [1, 2, 3, 4, 5, 0] rfl
                have hP : va_P g.1 vwCl (List.flatten [bFo g fo o lo od, bLaw g lo lc lz ll x_26 x_27 x_28 fc, bTown g od ad x_29 x_30 x_31 x_32 x_33 x_34 x_35 x_36 f_37, bTown g o a pe wo tx ch jo tr dy sd f]) H := hP
                have hD : va_D A (List.flatten [bFo g fo o lo od, bLaw g lo lc lz ll x_26 x_27 x_28 fc, bTown g od ad x_29 x_30 x_31 x_32 x_33 x_34 x_35 x_36 f_37, bTown g o a pe wo tx ch jo tr dy sd f]) := hD
                exact ih26_42 x_52 x_26 x_27 x_28 x_29 x_30 x_31 x_32 x_33 x_34 x_35 x_36 f_37 ⟨(Int.le_trans (by decide) hx_52.2.1), hx_52.2.2⟩ ⟨i39.1, i39.2⟩ ⟨i40.1, i40.2⟩ rf_37 H _ ls (zmK hx_52.1 (by decide) n48 (by decide) hk26_42)  hP hD hS (lv_sub hl [0, 1, 2, 3, 4, 5] rfl)
              · skip
                have c53 : q_49.toInt = x_3.toInt := zeq cb9 rfl rfl
                have n54 : 0 ≤ q_49.toInt := Int.le_trans i16.1 (Int.le_of_eq c53.symm)
                have n55 : q_49.toInt ≤ 8 := Int.le_trans (Int.le_of_eq c53) n24
                refine lv_iload hx hb dX0_fewestTold_50 (lv_at hl 5 rfl) ?_
                refine lv_iload_n hx hb dX0_fewestTold_52 rfl (lv_at hl 3 rfl) ?_
                refine lv_iconst (v := (-1)) hx hb dX0_fewestTold_53 (by decide) ?_
                refine lv_ixor hx hb dX0_fewestTold_54 ?_
                refine zg (fun x_56 => ?_)
                refine lv_iand hx hb dX0_fewestTold_55 ?_
                refine zg (fun x_57 => ?_)
                refine lv_if_ne (tgt := 75) hx hb dX0_fewestTold_56 (by decide) (fun cb9 => ?_) (fun cb9 => ?_)
                · skip
                  have c58 : ¬ x_57.toInt = 0 := zne cb9 rfl (by decide)
                  refine ziinc3 (n' := 1) (a' := 1) (b' := 256) (lv' := fun v9 => [(5, .int v9), (0, .ref fo), (1, .int xx), (2, .int n), (3, .int q_1), (4, .int x_3)]) hx hb dX0_fewestTold_75 hl (k := 5) rfl (by decide) (fun _ => rfl) (zaddK (i := x_25.toInt) (j := 1) rfl (by decide) i38.1 n48 (Int.le_refl _) (Int.le_refl _) (by decide)) (fun x_59 ls hx_59 hl => ?_)
                  refine lv_goto (tgt := 26) hx hb dX0_fewestTold_78 (by decide) ?_
                  have hl := lv_sub (l' := [(0, .ref fo), (1, .int xx), (2, .int n), (3, .int q_1), (4, .int x_3), (5, .int x_59)]) hl [1, 2, 3, 4, 5, 0] rfl
                  have hP : va_P g.1 vwCl (List.flatten [bFo g fo o lo od, bLaw g lo lc lz ll x_26 x_27 x_28 fc, bTown g od ad x_29 x_30 x_31 x_32 x_33 x_34 x_35 x_36 f_37, bTown g o a pe wo tx ch jo tr dy sd f]) H := hP
                  have hD : va_D A (List.flatten [bFo g fo o lo od, bLaw g lo lc lz ll x_26 x_27 x_28 fc, bTown g od ad x_29 x_30 x_31 x_32 x_33 x_34 x_35 x_36 f_37, bTown g o a pe wo tx ch jo tr dy sd f]) := hD
                  exact ih26_42 x_59 x_26 x_27 x_28 x_29 x_30 x_31 x_32 x_33 x_34 x_35 x_36 f_37 ⟨(Int.le_trans (by decide) hx_59.2.1), hx_59.2.2⟩ ⟨i39.1, i39.2⟩ ⟨i40.1, i40.2⟩ rf_37 H _ ls (zmK hx_59.1 (by decide) n48 (by decide) hk26_42)  hP hD hS (lv_sub hl [0, 1, 2, 3, 4, 5] rfl)
                · skip
                  have c60 : x_57.toInt = 0 := zeq cb9 rfl (by decide)
                  have n61 : 0 ≤ x_57.toInt := Int.le_trans (Int.le_refl _) (Int.le_of_eq c60.symm)
                  have n62 : x_57.toInt ≤ 0 := Int.le_trans (Int.le_of_eq c60) (Int.le_refl _)
                  refine lv_aload_n hx hb dX0_fewestTold_59 rfl (lv_at hl 0 rfl) ?_
                  refine lv_iload hx hb dX0_fewestTold_60 (lv_at hl 5 rfl) ?_
                  refine lv_bipush (v := 20) hx hb dX0_fewestTold_62 (by decide) ?_
                  refine lv_iload_n hx hb dX0_fewestTold_64 rfl (lv_at hl 2 rfl) ?_
                  refine mcallV' (g := g) (q0 := 0) (ci := 0) (As := [.int x_25, .int 20, .int n]) (rest := []) St hK hT hA hP hD hS hl.1 [0, 3, 1, 2] [] rfl rfl rfl (c_f_lookAhead l g fo o lo od a pe wo tx ch jo tr dy sd f lc lz ll x_26 x_27 x_28 fc ad x_29 x_30 x_31 x_32 x_33 x_34 x_35 x_36 f_37 x_25 20 n b_pe b_wo rf b_lz i39 i40 rf_37 b_n) (cwV 3 hts (zgL (zl4 k166 k167 k168 k169) k164) rfl rfl rfl (by decide +kernel) ⟨Nat.le_of_ble_eq_true rfl, Nat.le_of_ble_eq_true rfl⟩) rfl rfl rfl rfl (Nat.le_of_ble_eq_true rfl) dX0_fewestTold_65 ⟨(Nat.le_of_ble_eq_true rfl), (Nat.le_of_ble_eq_true rfl)⟩ (fun u_ H locs hq76 hP hD hS => ?_)
                  obtain ⟨lm2_63, lg2_64, ld2_65, pe3_66, wo3_67, tx3_68, ch3_69, jo3_70, tr3_71, dy3_72, sd3_73, f3_74, q_75⟩ := u_
                  replace hq76 : (0 ≤ pe3_66.toInt ∧ pe3_66.toInt ≤ 8) ∧ (0 ≤ wo3_67.toInt ∧ wo3_67.toInt ≤ 6) ∧ (zZ4 f3_74) := hq76
                  have hP : va_P g.1 vwCl (List.flatten [bFo g fo o lo od, bTown g o a pe wo tx ch jo tr dy sd f, bLaw g lo lc lz ll lm2_63 lg2_64 ld2_65 fc, bTown g od ad pe3_66 wo3_67 tx3_68 ch3_69 jo3_70 tr3_71 dy3_72 sd3_73 f3_74]) H := hP
                  have hD : va_D A (List.flatten [bFo g fo o lo od, bTown g o a pe wo tx ch jo tr dy sd f, bLaw g lo lc lz ll lm2_63 lg2_64 ld2_65 fc, bTown g od ad pe3_66 wo3_67 tx3_68 ch3_69 jo3_70 tr3_71 dy3_72 sd3_73 f3_74]) := hD
                  refine W.widen (k := 0) (n := 0) (Nat.le_of_ble_eq_true rfl) (Nat.le_of_ble_eq_true rfl) ?_
                  refine W.eq (g2 := F0 m 68 ls [.int q_75]) rfl ?_
                  obtain ⟨hq76_0, hq76_1, rf3_74⟩ := hq76
                  refine lv_iload_n hx hb dX0_fewestTold_68 rfl (lv_at hl 1 rfl) ?_
                  refine lv_icmp_lt (tgt := 75) hx hb dX0_fewestTold_69 (by decide) (fun cb9 => ?_) (fun cb9 => ?_)
                  · skip
                    have c77 : q_75.toInt < xx.toInt := zlti cb9 rfl rfl
                    refine ziinc3 (n' := 1) (a' := 1) (b' := 256) (lv' := fun v9 => [(5, .int v9), (0, .ref fo), (1, .int xx), (2, .int n), (3, .int q_1), (4, .int x_3)]) hx hb dX0_fewestTold_75 hl (k := 5) rfl (by decide) (fun _ => rfl) (zaddK (i := x_25.toInt) (j := 1) rfl (by decide) i38.1 n48 (Int.le_refl _) (Int.le_refl _) (by decide)) (fun x_78 ls hx_78 hl => ?_)
                    refine lv_goto (tgt := 26) hx hb dX0_fewestTold_78 (by decide) ?_
                    have hl := lv_sub (l' := [(0, .ref fo), (1, .int xx), (2, .int n), (3, .int q_1), (4, .int x_3), (5, .int x_78)]) hl [1, 2, 3, 4, 5, 0] rfl
                    have hP : va_P g.1 vwCl (List.flatten [bFo g fo o lo od, bTown g o a pe wo tx ch jo tr dy sd f, bLaw g lo lc lz ll lm2_63 lg2_64 ld2_65 fc, bTown g od ad pe3_66 wo3_67 tx3_68 ch3_69 jo3_70 tr3_71 dy3_72 sd3_73 f3_74]) H := hP
                    have hD : va_D A (List.flatten [bFo g fo o lo od, bTown g o a pe wo tx ch jo tr dy sd f, bLaw g lo lc lz ll lm2_63 lg2_64 ld2_65 fc, bTown g od ad pe3_66 wo3_67 tx3_68 ch3_69 jo3_70 tr3_71 dy3_72 sd3_73 f3_74]) := hD
                    obtain ⟨hP, hD⟩ := zord (g := g) (Bs' := [bFo g fo o lo od, bLaw g lo lc lz ll lm2_63 lg2_64 ld2_65 fc, bTown g od ad pe3_66 wo3_67 tx3_68 ch3_69 jo3_70 tr3_71 dy3_72 sd3_73 f3_74, bTown g o a pe wo tx ch jo tr dy sd f]) [0, 2, 3, 1] rfl rfl hP hD
                    have hP : va_P g.1 vwCl (List.flatten [bFo g fo o lo od, bLaw g lo lc lz ll lm2_63 lg2_64 ld2_65 fc, bTown g od ad pe3_66 wo3_67 tx3_68 ch3_69 jo3_70 tr3_71 dy3_72 sd3_73 f3_74, bTown g o a pe wo tx ch jo tr dy sd f]) H := hP
                    have hD : va_D A (List.flatten [bFo g fo o lo od, bLaw g lo lc lz ll lm2_63 lg2_64 ld2_65 fc, bTown g od ad pe3_66 wo3_67 tx3_68 ch3_69 jo3_70 tr3_71 dy3_72 sd3_73 f3_74, bTown g o a pe wo tx ch jo tr dy sd f]) := hD
                    exact ih26_42 x_78 lm2_63 lg2_64 ld2_65 pe3_66 wo3_67 tx3_68 ch3_69 jo3_70 tr3_71 dy3_72 sd3_73 f3_74 ⟨(Int.le_trans (by decide) hx_78.2.1), hx_78.2.2⟩ ⟨hq76_0.1, hq76_0.2⟩ ⟨hq76_1.1, hq76_1.2⟩ rf3_74 H _ ls (zmK hx_78.1 (by decide) n48 (by decide) hk26_42)  hP hD hS (lv_sub hl [0, 1, 2, 3, 4, 5] rfl)
                  · skip
                    have c79 : xx.toInt ≤ q_75.toInt := zle (Int32.not_lt.mp cb9) rfl rfl
                    refine lv_iload hx hb dX0_fewestTold_72 (lv_at hl 5 rfl) ?_
                    have hP : va_P g.1 vwCl (List.flatten [bFo g fo o lo od, bTown g o a pe wo tx ch jo tr dy sd f, bLaw g lo lc lz ll lm2_63 lg2_64 ld2_65 fc, bTown g od ad pe3_66 wo3_67 tx3_68 ch3_69 jo3_70 tr3_71 dy3_72 sd3_73 f3_74]) H := hP
                    have hD : va_D A (List.flatten [bFo g fo o lo od, bTown g o a pe wo tx ch jo tr dy sd f, bLaw g lo lc lz ll lm2_63 lg2_64 ld2_65 fc, bTown g od ad pe3_66 wo3_67 tx3_68 ch3_69 jo3_70 tr3_71 dy3_72 sd3_73 f3_74]) := hD
                    exact mret_i hx hb hr hlocks hS (Nat.le_of_ble_eq_true rfl) (Nat.le_of_ble_eq_true rfl) dX0_fewestTold_74 (lm2_63, lg2_64, ld2_65, pe3_66, wo3_67, tx3_68, ch3_69, jo3_70, tr3_71, dy3_72, sd3_73, f3_74, x_25) rfl (show (0 ≤ pe3_66.toInt ∧ pe3_66.toInt ≤ 8) ∧ (0 ≤ wo3_67.toInt ∧ wo3_67.toInt ≤ 6) ∧ (zZ4 f3_74) from ⟨hq76_0, hq76_1, rf3_74⟩) hP hD
        have hP : va_P g.1 vwCl (List.flatten [bFo g fo o lo od, bLaw g lo lc lz ll x_4 x_5 x_6 fc, bTown g od ad x_7 x_8 x_9 x_10 x_11 x_12 x_13 x_14 f_15, bTown g o a pe wo tx ch jo tr dy sd f]) H := hP
        have hD : va_D A (List.flatten [bFo g fo o lo od, bLaw g lo lc lz ll x_4 x_5 x_6 fc, bTown g od ad x_7 x_8 x_9 x_10 x_11 x_12 x_13 x_14 f_15, bTown g o a pe wo tx ch jo tr dy sd f]) := hD
        exact LP26_41 _ 0 x_4 x_5 x_6 x_7 x_8 x_9 x_10 x_11 x_12 x_13 x_14 f_15 (by decide) ⟨i17.1, i17.2⟩ ⟨i18.1, i18.2⟩ rf_15 H _ ls (Nat.lt_succ_self _)  hP hD hS (lv_sub hl [0, 1, 2, 3, 4, 5] rfl)
  have hP : va_P g.1 vwCl (List.flatten [bFo g fo o lo od, bLaw g lo lc lz ll lm lg ld fc, bTown g od ad ped wod txd chd jod trd dyd sdd fd, bTown g o a pe wo tx ch jo tr dy sd f]) H := hP
  have hD : va_D A (List.flatten [bFo g fo o lo od, bLaw g lo lc lz ll lm lg ld fc, bTown g od ad ped wod txd chd jod trd dyd sdd fd, bTown g o a pe wo tx ch jo tr dy sd f]) := hD
  exact LP11_19 _ 0 lm lg ld ped wod txd chd jod trd dyd sdd fd (by decide) ⟨b_ped.1, b_ped.2⟩ ⟨b_wod.1, b_wod.2⟩ rfd H _ ls (Nat.lt_succ_self _)  hP hD hS (lv_sub hl [0, 1, 2, 3, 4] rfl)
