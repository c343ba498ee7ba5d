set_option maxRecDepth 100000 in
set_option maxHeartbeats 4000000 in
theorem c_f_utmostOfSeeds (l : Launch) (g : zG) (fo : Nat) (o : Nat) (lo : Nat) (od : Nat) (a : Nat → Nat) (pe : Int32) (wo : Int32) (tx : Int32) (ch : Int32) (jo : Int32) (tr : Int32) (dy : Int32) (sd : Int32) (f : Nat → Nat → Int32) (lc : Nat) (lz : Int32) (ll : Int32) (lm : Int32) (lg : Int32) (ld : Int32) (fc : Nat → Int32) (ad : Nat → Nat) (ped : Int32) (wod : Int32) (txd : Int32) (chd : Int32) (jod : Int32) (trd : Int32) (dyd : Int32) (sdd : Int32) (fd : Nat → Nat → Int32) (n : Int32) (mo9 : Int32) (b_pe : 0 ≤ pe.toInt ∧ pe.toInt ≤ 8) (b_wo : 0 ≤ wo.toInt ∧ wo.toInt ≤ 6) (rf : zZ4 f) (b_lz : 0 ≤ lz.toInt ∧ lz.toInt ≤ 400) (b_ped : 0 ≤ ped.toInt ∧ ped.toInt ≤ 8) (b_wod : 0 ≤ wod.toInt ∧ wod.toInt ≤ 6) (rfd : zZ4 fd) (b_n : 0 ≤ n.toInt ∧ n.toInt ≤ 100) : zM' g l yX0_utmostOfSeeds (Cond.code yX0_utmostOfSeeds cX0_utmostOfSeeds 6 (some .int) :: zB) ({ frames := 7, cells := 0, slots := 0, locals := 151 } : Room) [.ref fo, .int n, .int mo9] [bFo g fo o lo od, bTown g o a pe wo tx ch jo tr dy sd f, bLaw g lo lc lz ll lm lg ld fc, bTown g od ad ped wod txd chd jod trd dyd sdd fd] (fun u : Int32 × Int32 × Int32 × Int32 × Int32 × Int32 × Int32 × Int32 × Int32 × Int32 × Int32 × (Nat → Nat → Int32) × Int32 => (fun (lm2 : Int32) (lg2 : Int32) (ld2 : Int32) (pe3 : Int32) (wo3 : Int32) (tx3 : Int32) (ch3 : Int32) (jo3 : Int32) (tr3 : Int32) (dy3 : Int32) (sd3 : Int32) (f3 : Nat → Nat → Int32) (q : Int32) => some (.int q)) (u.1) (u.2.1) (u.2.2.1) (u.2.2.2.1) (u.2.2.2.2.1) (u.2.2.2.2.2.1) (u.2.2.2.2.2.2.1) (u.2.2.2.2.2.2.2.1) (u.2.2.2.2.2.2.2.2.1) (u.2.2.2.2.2.2.2.2.2.1) (u.2.2.2.2.2.2.2.2.2.2.1) (u.2.2.2.2.2.2.2.2.2.2.2.1) (u.2.2.2.2.2.2.2.2.2.2.2.2)) (fun u : Int32 × Int32 × Int32 × Int32 × Int32 × Int32 × Int32 × Int32 × Int32 × Int32 × Int32 × (Nat → Nat → Int32) × Int32 => (fun (lm2 : Int32) (lg2 : Int32) (ld2 : Int32) (pe3 : Int32) (wo3 : Int32) (tx3 : Int32) (ch3 : Int32) (jo3 : Int32) (tr3 : Int32) (dy3 : Int32) (sd3 : Int32) (f3 : Nat → Nat → Int32) (q : Int32) => (0 ≤ pe3.toInt ∧ pe3.toInt ≤ 8) ∧ (0 ≤ wo3.toInt ∧ wo3.toInt ≤ 6) ∧ (zZ4 f3)) (u.1) (u.2.1) (u.2.2.1) (u.2.2.2.1) (u.2.2.2.2.1) (u.2.2.2.2.2.1) (u.2.2.2.2.2.2.1) (u.2.2.2.2.2.2.2.1) (u.2.2.2.2.2.2.2.2.1) (u.2.2.2.2.2.2.2.2.2.1) (u.2.2.2.2.2.2.2.2.2.2.1) (u.2.2.2.2.2.2.2.2.2.2.2.1) (u.2.2.2.2.2.2.2.2.2.2.2.2)) (fun u : Int32 × Int32 × Int32 × Int32 × Int32 × Int32 × Int32 × Int32 × Int32 × Int32 × Int32 × (Nat → Nat → Int32) × Int32 => (fun (lm2 : Int32) (lg2 : Int32) (ld2 : Int32) (pe3 : Int32) (wo3 : Int32) (tx3 : Int32) (ch3 : Int32) (jo3 : Int32) (tr3 : Int32) (dy3 : Int32) (sd3 : Int32) (f3 : Nat → Nat → Int32) (q : Int32) => [bFo g fo o lo od, bTown g o a pe wo tx ch jo tr dy sd f, bLaw g lo lc lz ll lm2 lg2 ld2 fc, bTown g od ad pe3 wo3 tx3 ch3 jo3 tr3 dy3 sd3 f3]) (u.1) (u.2.1) (u.2.2.1) (u.2.2.2.1) (u.2.2.2.2.1) (u.2.2.2.2.2.1) (u.2.2.2.2.2.2.1) (u.2.2.2.2.2.2.2.1) (u.2.2.2.2.2.2.2.2.1) (u.2.2.2.2.2.2.2.2.2.1) (u.2.2.2.2.2.2.2.2.2.2.1) (u.2.2.2.2.2.2.2.2.2.2.2.1) (u.2.2.2.2.2.2.2.2.2.2.2.2)) := by
  refine zM'.of (cc := cX0_utmostOfSeeds) (maxL := 6) (rt := (some .int)) (by decide) rfl (Nat.le_of_ble_eq_true rfl) ?_
  intro p e s m args below meth c A ls St hr hlocks hin hK hT hA hP hD hS hl
  obtain ⟨hx, hb, hml, hown, hts⟩ := id St
  have hl : lv_has ls 6 [(0, .ref fo), (1, .int n), (2, .int mo9)] := hl
  refine lv_iconst (v := (-1)) hx hb dX0_utmostOfSeeds_0 (by decide) ?_
  refine lv_istore_n (lv' := [(3, .int (-1)), (0, .ref fo), (1, .int n), (2, .int mo9)]) hx hb dX0_utmostOfSeeds_1 rfl hl (by decide) rfl (fun ls hl => ?_)
  refine lv_iconst (v := 1) hx hb dX0_utmostOfSeeds_2 (by decide) ?_
  refine lv_istore (lv' := [(4, .int 1), (3, .int (-1)), (0, .ref fo), (1, .int n), (2, .int mo9)]) hx hb dX0_utmostOfSeeds_3 hl (by decide) rfl (fun ls hl => ?_)
  have hl := lv_sub (l' := [(0, .ref fo), (1, .int n), (2, .int mo9), (3, .int (-1)), (4, .int 1)]) hl [2, 3, 4, 1, 0] rfl
  have LP5_18 : ∀ (kf : Nat) (x_1 : Int32) (x_2 : Int32) (x_3 : Int32) (x_4 : Int32) (x_5 : Int32) (x_6 : Int32) (x_7 : Int32) (x_8 : Int32) (x_9 : Int32) (x_10 : Int32) (x_11 : Int32) (x_12 : Int32) (x_13 : Int32) (f_14 : Nat → Nat → Int32), (1 ≤ x_2.toInt ∧ x_2.toInt ≤ 7) → (0 ≤ x_6.toInt ∧ x_6.toInt ≤ 8) → (0 ≤ x_7.toInt ∧ x_7.toInt ≤ 6) → (zZ4 f_14) → ∀ (H : Heap) (locs : List Loc) (ls : Array Slot), ((8 - x_2.toInt).toNat) < kf → va_P g.1 vwCl (List.flatten [bFo g fo o lo od, bTown g o a pe wo tx ch jo tr dy sd f, bLaw g lo lc lz ll x_3 x_4 x_5 fc, bTown g od ad x_6 x_7 x_8 x_9 x_10 x_11 x_12 x_13 f_14]) H → va_D A (List.flatten [bFo g fo o lo od, bTown g o a pe wo tx ch jo tr dy sd f, bLaw g lo lc lz ll x_3 x_4 x_5 fc, bTown g od ad x_6 x_7 x_8 x_9 x_10 x_11 x_12 x_13 f_14]) → va_S A s.heap H locs → lv_has ls 6 [(0, .ref fo), (1, .int n), (2, .int mo9), (3, .int x_1), (4, .int x_2)] → W p l e ({ frames := 7, cells := 0, slots := 0, locals := 151 } : Room) s m args below meth c H locs (0) (0) (zF g (fun u : Int32 × Int32 × Int32 × Int32 × Int32 × Int32 × Int32 × Int32 × Int32 × Int32 × Int32 × (Nat → Nat → Int32) × Int32 => (fun (lm2 : Int32) (lg2 : Int32) (ld2 : Int32) (pe3 : Int32) (wo3 : Int32) (tx3 : Int32) (ch3 : Int32) (jo3 : Int32) (tr3 : Int32) (dy3 : Int32) (sd3 : Int32) (f3 : Nat → Nat → Int32) (q : Int32) => some (.int q)) (u.1) (u.2.1) (u.2.2.1) (u.2.2.2.1) (u.2.2.2.2.1) (u.2.2.2.2.2.1) (u.2.2.2.2.2.2.1) (u.2.2.2.2.2.2.2.1) (u.2.2.2.2.2.2.2.2.1) (u.2.2.2.2.2.2.2.2.2.1) (u.2.2.2.2.2.2.2.2.2.2.1) (u.2.2.2.2.2.2.2.2.2.2.2.1) (u.2.2.2.2.2.2.2.2.2.2.2.2)) (fun u : Int32 × Int32 × Int32 × Int32 × Int32 × Int32 × Int32 × Int32 × Int32 × Int32 × Int32 × (Nat → Nat → Int32) × Int32 => (fun (lm2 : Int32) (lg2 : Int32) (ld2 : Int32) (pe3 : Int32) (wo3 : Int32) (tx3 : Int32) (ch3 : Int32) (jo3 : Int32) (tr3 : Int32) (dy3 : Int32) (sd3 : Int32) (f3 : Nat → Nat → Int32) (q : Int32) => (0 ≤ pe3.toInt ∧ pe3.toInt ≤ 8) ∧ (0 ≤ wo3.toInt ∧ wo3.toInt ≤ 6) ∧ (zZ4 f3)) (u.1) (u.2.1) (u.2.2.1) (u.2.2.2.1) (u.2.2.2.2.1) (u.2.2.2.2.2.1) (u.2.2.2.2.2.2.1) (u.2.2.2.2.2.2.2.1) (u.2.2.2.2.2.2.2.2.1) (u.2.2.2.2.2.2.2.2.2.1) (u.2.2.2.2.2.2.2.2.2.2.1) (u.2.2.2.2.2.2.2.2.2.2.2.1) (u.2.2.2.2.2.2.2.2.2.2.2.2)) (fun u : Int32 × Int32 × Int32 × Int32 × Int32 × Int32 × Int32 × Int32 × Int32 × Int32 × Int32 × (Nat → Nat → Int32) × Int32 => (fun (lm2 : Int32) (lg2 : Int32) (ld2 : Int32) (pe3 : Int32) (wo3 : Int32) (tx3 : Int32) (ch3 : Int32) (jo3 : Int32) (tr3 : Int32) (dy3 : Int32) (sd3 : Int32) (f3 : Nat → Nat → Int32) (q : Int32) => [bFo g fo o lo od, bTown g o a pe wo tx ch jo tr dy sd f, bLaw g lo lc lz ll lm2 lg2 ld2 fc, bTown g od ad pe3 wo3 tx3 ch3 jo3 tr3 dy3 sd3 f3]) (u.1) (u.2.1) (u.2.2.1) (u.2.2.2.1) (u.2.2.2.2.1) (u.2.2.2.2.2.1) (u.2.2.2.2.2.2.1) (u.2.2.2.2.2.2.2.1) (u.2.2.2.2.2.2.2.2.1) (u.2.2.2.2.2.2.2.2.2.1) (u.2.2.2.2.2.2.2.2.2.2.1) (u.2.2.2.2.2.2.2.2.2.2.2.1) (u.2.2.2.2.2.2.2.2.2.2.2.2)) ({ frames := 7, cells := 0, slots := 0, locals := 151 } : Room) below args s A) (F0 m 5 ls []) := by
    intro kf
    induction kf with
    | zero => intro x_1 x_2 x_3 x_4 x_5 x_6 x_7 x_8 x_9 x_10 x_11 x_12 x_13 f_14 i15 i16 i17 rf_14 H locs ls hk; exact absurd hk (Nat.not_lt_zero _)
    | succ kf ih5_19 =>
      intro x_1 x_2 x_3 x_4 x_5 x_6 x_7 x_8 x_9 x_10 x_11 x_12 x_13 f_14 i15 i16 i17 rf_14 H locs ls hk5_19 hP hD hS hl
      refine lv_iload hx hb dX0_utmostOfSeeds_5 (lv_at hl 4 rfl) ?_
      refine lv_bipush (v := 6) hx hb dX0_utmostOfSeeds_7 (by decide) ?_
      refine lv_icmp_gt (tgt := 54) hx hb dX0_utmostOfSeeds_9 (by decide) (fun cb9 => ?_) (fun cb9 => ?_)
      · skip
        have c20 : 6 < x_2.toInt := zlti cb9 (by decide) rfl
        have n21 : 7 ≤ x_2.toInt := zL2 (a := 6) c20 (Int.le_refl _) (by decide)
        refine lv_iload_n hx hb dX0_utmostOfSeeds_54 rfl (lv_at hl 3 rfl) ?_
        have hP : va_P g.1 vwCl (List.flatten [bFo g fo o lo od, bTown g o a pe wo tx ch jo tr dy sd f, bLaw g lo lc lz ll x_3 x_4 x_5 fc, bTown g od ad x_6 x_7 x_8 x_9 x_10 x_11 x_12 x_13 f_14]) H := hP
        have hD : va_D A (List.flatten [bFo g fo o lo od, bTown g o a pe wo tx ch jo tr dy sd f, bLaw g lo lc lz ll x_3 x_4 x_5 fc, bTown g od ad x_6 x_7 x_8 x_9 x_10 x_11 x_12 x_13 f_14]) := hD
        exact mret_i hx hb hr hlocks hS (Nat.le_of_ble_eq_true rfl) (Nat.le_of_ble_eq_true rfl) dX0_utmostOfSeeds_55 (x_3, x_4, x_5, x_6, x_7, x_8, x_9, x_10, x_11, x_12, x_13, f_14, x_1) rfl (show (0 ≤ x_6.toInt ∧ x_6.toInt ≤ 8) ∧ (0 ≤ x_7.toInt ∧ x_7.toInt ≤ 6) ∧ (zZ4 f_14) from ⟨i16, i17, rf_14⟩) hP hD
      · skip
        have c22 : x_2.toInt ≤ 6 := zle (Int32.not_lt.mp cb9) rfl (by decide)
        have n23 : x_2.toInt ≤ 6 := Int.le_trans c22 (Int.le_refl _)
        refine lv_aload_n hx hb dX0_utmostOfSeeds_12 rfl (lv_at hl 0 rfl) ?_
        refine lv_iload hx hb dX0_utmostOfSeeds_13 (lv_at hl 4 rfl) ?_
        refine lv_iload_n hx hb dX0_utmostOfSeeds_15 rfl (lv_at hl 1 rfl) ?_
        refine mcallV' (g := g) (q0 := 0) (ci := 0) (As := [.int x_2, .int n]) (rest := []) St hK hT hA hP hD hS hl.1 [0, 1, 2, 3] [] rfl rfl rfl (c_f_tryOut l g fo o lo od a pe wo tx ch jo tr dy sd f lc lz ll x_3 x_4 x_5 fc ad x_6 x_7 x_8 x_9 x_10 x_11 x_12 x_13 f_14 x_2 n b_pe b_wo rf b_lz i16 i17 rf_14 b_n) (cwV 2 hts (zgL (zl4 k193 k194 k195 k169) k192) rfl rfl rfl (by decide +kernel) ⟨Nat.le_of_ble_eq_true rfl, Nat.le_of_ble_eq_true rfl⟩) rfl rfl rfl rfl (Nat.le_of_ble_eq_true rfl) dX0_utmostOfSeeds_16 ⟨(Nat.le_of_ble_eq_true rfl), (Nat.le_of_ble_eq_true rfl)⟩ (fun u_ H locs hq37 hP hD hS => ?_)
        obtain ⟨lm2_24, lg2_25, ld2_26, pe3_27, wo3_28, tx3_29, ch3_30, jo3_31, tr3_32, dy3_33, sd3_34, f3_35, q_36⟩ := u_
        replace hq37 : (0 ≤ pe3_27.toInt ∧ pe3_27.toInt ≤ 8) ∧ (0 ≤ wo3_28.toInt ∧ wo3_28.toInt ≤ 6) ∧ (zZ4 f3_35) := hq37
        have hP : va_P g.1 vwCl (List.flatten [bFo g fo o lo od, bTown g o a pe wo tx ch jo tr dy sd f, bLaw g lo lc lz ll lm2_24 lg2_25 ld2_26 fc, bTown g od ad pe3_27 wo3_28 tx3_29 ch3_30 jo3_31 tr3_32 dy3_33 sd3_34 f3_35]) H := hP
        have hD : va_D A (List.flatten [bFo g fo o lo od, bTown g o a pe wo tx ch jo tr dy sd f, bLaw g lo lc lz ll lm2_24 lg2_25 ld2_26 fc, bTown g od ad pe3_27 wo3_28 tx3_29 ch3_30 jo3_31 tr3_32 dy3_33 sd3_34 f3_35]) := hD
        refine W.widen (k := 0) (n := 0) (Nat.le_of_ble_eq_true rfl) (Nat.le_of_ble_eq_true rfl) ?_
        refine W.eq (g2 := F0 m 19 ls [.int q_36]) rfl ?_
        obtain ⟨hq37_0, hq37_1, rf3_35⟩ := hq37
        refine lv_istore (lv' := [(5, .int q_36), (0, .ref fo), (1, .int n), (2, .int mo9), (3, .int x_1), (4, .int x_2)]) hx hb dX0_utmostOfSeeds_19 hl (by decide) rfl (fun ls hl => ?_)
        refine lv_iload_n hx hb dX0_utmostOfSeeds_21 rfl (lv_at hl 4 rfl) ?_
        refine lv_iconst (v := (-1)) hx hb dX0_utmostOfSeeds_22 (by decide) ?_
        refine lv_icmp_eq (tgt := 45) hx hb dX0_utmostOfSeeds_23 (by decide) (fun cb9 => ?_) (fun cb9 => ?_)
        · skip
          have c38 : x_1.toInt = (-1) := zeq cb9 rfl (by decide)
          have n39 : (-1) ≤ x_1.toInt := Int.le_trans (Int.le_refl _) (Int.le_of_eq c38.symm)
          have n40 : x_1.toInt ≤ (-1) := Int.le_trans (Int.le_of_eq c38) (Int.le_refl _)
          refine lv_iload hx hb dX0_utmostOfSeeds_45 (lv_at hl 0 rfl) ?_
          refine lv_istore_n (lv' := [(3, .int q_36), (5, .int q_36), (0, .ref fo), (1, .int n), (2, .int mo9), (4, .int x_2)]) hx hb dX0_utmostOfSeeds_47 rfl hl (by decide) rfl (fun ls hl => ?_)
          refine ziinc3 (n' := 1) (a' := 2) (b' := 7) (lv' := fun v9 => [(4, .int v9), (3, .int q_36), (5, .int q_36), (0, .ref fo), (1, .int n), (2, .int mo9)]) hx hb dX0_utmostOfSeeds_48 hl (k := 5) rfl (by decide) (fun _ => rfl) (zaddK (i := x_2.toInt) (j := 1) rfl (by decide) i15.1 n23 (Int.le_refl _) (Int.le_refl _) (by decide)) (fun x_41 ls hx_41 hl => ?_)
          refine lv_goto (tgt := 5) hx hb dX0_utmostOfSeeds_51 (by decide) ?_
          have hl := lv_sub (l' := [(0, .ref fo), (1, .int n), (2, .int mo9), (3, .int q_36), (4, .int x_41), (5, .int q_36)]) hl [3, 4, 5, 1, 0, 2] rfl
          have hP : va_P g.1 vwCl (List.flatten [bFo g fo o lo od, bTown g o a pe wo tx ch jo tr dy sd f, bLaw g lo lc lz ll lm2_24 lg2_25 ld2_26 fc, bTown g od ad pe3_27 wo3_28 tx3_29 ch3_30 jo3_31 tr3_32 dy3_33 sd3_34 f3_35]) H := hP
          have hD : va_D A (List.flatten [bFo g fo o lo od, bTown g o a pe wo tx ch jo tr dy sd f, bLaw g lo lc lz ll lm2_24 lg2_25 ld2_26 fc, bTown g od ad pe3_27 wo3_28 tx3_29 ch3_30 jo3_31 tr3_32 dy3_33 sd3_34 f3_35]) := hD
          exact ih5_19 q_36 x_41 lm2_24 lg2_25 ld2_26 pe3_27 wo3_28 tx3_29 ch3_30 jo3_31 tr3_32 dy3_33 sd3_34 f3_35 ⟨(Int.le_trans (by decide) hx_41.2.1), hx_41.2.2⟩ ⟨hq37_0.1, hq37_0.2⟩ ⟨hq37_1.1, hq37_1.2⟩ rf3_35 H _ ls (zmK hx_41.1 (by decide) n23 (by decide) hk5_19)  hP hD hS (lv_sub hl [0, 1, 2, 3, 4] rfl)
        · skip
          have c42 : ¬ x_1.toInt = (-1) := zne cb9 rfl (by decide)
          refine lv_iload_n hx hb dX0_utmostOfSeeds_26 rfl (lv_at hl 3 rfl) ?_
          refine lv_if_eq (tgt := 39) hx hb dX0_utmostOfSeeds_27 (by decide) (fun cb9 => ?_) (fun cb9 => ?_)
          · skip
            have c43 : mo9.toInt = 0 := zeq cb9 rfl (by decide)
            have n44 : 0 ≤ mo9.toInt := Int.le_trans (Int.le_refl _) (Int.le_of_eq c43.symm)
            have n45 : mo9.toInt ≤ 0 := Int.le_trans (Int.le_of_eq c43) (Int.le_refl _)
            refine lv_iload hx hb dX0_utmostOfSeeds_39 (lv_at hl 0 rfl) ?_
            refine lv_iload_n hx hb dX0_utmostOfSeeds_41 rfl (lv_at hl 4 rfl) ?_
            refine lv_icmp_ge (tgt := 48) hx hb dX0_utmostOfSeeds_42 (by decide) (fun cb9 => ?_) (fun cb9 => ?_)
            · skip
              have c46 : x_1.toInt ≤ q_36.toInt := zle cb9 rfl rfl
              refine ziinc3 (n' := 1) (a' := 2) (b' := 7) (lv' := fun v9 => [(4, .int v9), (5, .int q_36), (0, .ref fo), (1, .int n), (2, .int mo9), (3, .int x_1)]) hx hb dX0_utmostOfSeeds_48 hl (k := 5) rfl (by decide) (fun _ => rfl) (zaddK (i := x_2.toInt) (j := 1) rfl (by decide) i15.1 n23 (Int.le_refl _) (Int.le_refl _) (by decide)) (fun x_47 ls hx_47 hl => ?_)
              refine lv_goto (tgt := 5) hx hb dX0_utmostOfSeeds_51 (by decide) ?_
              have hl := lv_sub (l' := [(0, .ref fo), (1, .int n), (2, .int mo9), (3, .int x_1), (4, .int x_47), (5, .int q_36)]) hl [2, 3, 4, 5, 0, 1] rfl
              have hP : va_P g.1 vwCl (List.flatten [bFo g fo o lo od, bTown g o a pe wo tx ch jo tr dy sd f, bLaw g lo lc lz ll lm2_24 lg2_25 ld2_26 fc, bTown g od ad pe3_27 wo3_28 tx3_29 ch3_30 jo3_31 tr3_32 dy3_33 sd3_34 f3_35]) H := hP
              have hD : va_D A (List.flatten [bFo g fo o lo od, bTown g o a pe wo tx ch jo tr dy sd f, bLaw g lo lc lz ll lm2_24 lg2_25 ld2_26 fc, bTown g od ad pe3_27 wo3_28 tx3_29 ch3_30 jo3_31 tr3_32 dy3_33 sd3_34 f3_35]) := hD
              exact ih5_19 x_1 x_47 lm2_24 lg2_25 ld2_26 pe3_27 wo3_28 tx3_29 ch3_30 jo3_31 tr3_32 dy3_33 sd3_34 f3_35 ⟨(Int.le_trans (by decide) hx_47.2.1), hx_47.2.2⟩ ⟨hq37_0.1, hq37_0.2⟩ ⟨hq37_1.1, hq37_1.2⟩ rf3_35 H _ ls (zmK hx_47.1 (by decide) n23 (by decide) hk5_19)  hP hD hS (lv_sub hl [0, 1, 2, 3, 4] rfl)
            · skip
              have c48 : q_36.toInt < x_1.toInt := zlti (Int32.not_le.mp cb9) rfl rfl
              refine lv_iload hx hb dX0_utmostOfSeeds_45 (lv_at hl 0 rfl) ?_
              refine lv_istore_n (lv' := [(3, .int q_36), (5, .int q_36), (0, .ref fo), (1, .int n), (2, .int mo9), (4, .int x_2)]) hx hb dX0_utmostOfSeeds_47 rfl hl (by decide) rfl (fun ls hl => ?_)
              refine ziinc3 (n' := 1) (a' := 2) (b' := 7) (lv' := fun v9 => [(4, .int v9), (3, .int q_36), (5, .int q_36), (0, .ref fo), (1, .int n), (2, .int mo9)]) hx hb dX0_utmostOfSeeds_48 hl (k := 5) rfl (by decide) (fun _ => rfl) (zaddK (i := x_2.toInt) (j := 1) rfl (by decide) i15.1 n23 (Int.le_refl _) (Int.le_refl _) (by decide)) (fun x_49 ls hx_49 hl => ?_)
              refine lv_goto (tgt := 5) hx hb dX0_utmostOfSeeds_51 (by decide) ?_
              have hl := lv_sub (l' := [(0, .ref fo), (1, .int n), (2, .int mo9), (3, .int q_36), (4, .int x_49), (5, .int q_36)]) hl [3, 4, 5, 1, 0, 2] rfl
              have hP : va_P g.1 vwCl (List.flatten [bFo g fo o lo od, bTown g o a pe wo tx ch jo tr dy sd f, bLaw g lo lc lz ll lm2_24 lg2_25 ld2_26 fc, bTown g od ad pe3_27 wo3_28 tx3_29 ch3_30 jo3_31 tr3_32 dy3_33 sd3_34 f3_35]) H := hP
              have hD : va_D A (List.flatten [bFo g fo o lo od, bTown g o a pe wo tx ch jo tr dy sd f, bLaw g lo lc lz ll lm2_24 lg2_25 ld2_26 fc, bTown g od ad pe3_27 wo3_28 tx3_29 ch3_30 jo3_31 tr3_32 dy3_33 sd3_34 f3_35]) := hD
              exact ih5_19 q_36 x_49 lm2_24 lg2_25 ld2_26 pe3_27 wo3_28 tx3_29 ch3_30 jo3_31 tr3_32 dy3_33 sd3_34 f3_35 ⟨(Int.le_trans (by decide) hx_49.2.1), hx_49.2.2⟩ ⟨hq37_0.1, hq37_0.2⟩ ⟨hq37_1.1, hq37_1.2⟩ rf3_35 H _ ls (zmK hx_49.1 (by decide) n23 (by decide) hk5_19)  hP hD hS (lv_sub hl [0, 1, 2, 3, 4] rfl)
          · skip
            have c50 : ¬ mo9.toInt = 0 := zne cb9 rfl (by decide)
            refine lv_iload hx hb dX0_utmostOfSeeds_30 (lv_at hl 0 rfl) ?_
            refine lv_iload_n hx hb dX0_utmostOfSeeds_32 rfl (lv_at hl 4 rfl) ?_
            refine lv_icmp_le (tgt := 48) hx hb dX0_utmostOfSeeds_33 (by decide) (fun cb9 => ?_) (fun cb9 => ?_)
            · skip
              have c51 : q_36.toInt ≤ x_1.toInt := zle cb9 rfl rfl
              refine ziinc3 (n' := 1) (a' := 2) (b' := 7) (lv' := fun v9 => [(4, .int v9), (5, .int q_36), (0, .ref fo), (1, .int n), (2, .int mo9), (3, .int x_1)]) hx hb dX0_utmostOfSeeds_48 hl (k := 5) rfl (by decide) (fun _ => rfl) (zaddK (i := x_2.toInt) (j := 1) rfl (by decide) i15.1 n23 (Int.le_refl _) (Int.le_refl _) (by decide)) (fun x_52 ls hx_52 hl => ?_)
              refine lv_goto (tgt := 5) hx hb dX0_utmostOfSeeds_51 (by decide) ?_
              have hl := lv_sub (l' := [(0, .ref fo), (1, .int n), (2, .int mo9), (3, .int x_1), (4, .int x_52), (5, .int q_36)]) hl [2, 3, 4, 5, 0, 1] rfl
              have hP : va_P g.1 vwCl (List.flatten [bFo g fo o lo od, bTown g o a pe wo tx ch jo tr dy sd f, bLaw g lo lc lz ll lm2_24 lg2_25 ld2_26 fc, bTown g od ad pe3_27 wo3_28 tx3_29 ch3_30 jo3_31 tr3_32 dy3_33 sd3_34 f3_35]) H := hP
              have hD : va_D A (List.flatten [bFo g fo o lo od, bTown g o a pe wo tx ch jo tr dy sd f, bLaw g lo lc lz ll lm2_24 lg2_25 ld2_26 fc, bTown g od ad pe3_27 wo3_28 tx3_29 ch3_30 jo3_31 tr3_32 dy3_33 sd3_34 f3_35]) := hD
              exact ih5_19 x_1 x_52 lm2_24 lg2_25 ld2_26 pe3_27 wo3_28 tx3_29 ch3_30 jo3_31 tr3_32 dy3_33 sd3_34 f3_35 ⟨(Int.le_trans (by decide) hx_52.2.1), hx_52.2.2⟩ ⟨hq37_0.1, hq37_0.2⟩ ⟨hq37_1.1, hq37_1.2⟩ rf3_35 H _ ls (zmK hx_52.1 (by decide) n23 (by decide) hk5_19)  hP hD hS (lv_sub hl [0, 1, 2, 3, 4] rfl)
            · skip
              have c53 : x_1.toInt < q_36.toInt := zlti (Int32.not_le.mp cb9) rfl rfl
              refine lv_goto (tgt := 45) hx hb dX0_utmostOfSeeds_36 (by decide) ?_
              refine lv_iload hx hb dX0_utmostOfSeeds_45 (lv_at hl 0 rfl) ?_
              refine lv_istore_n (lv' := [(3, .int q_36), (5, .int q_36), (0, .ref fo), (1, .int n), (2, .int mo9), (4, .int x_2)]) hx hb dX0_utmostOfSeeds_47 rfl hl (by decide) rfl (fun ls hl => ?_)
              refine ziinc3 (n' := 1) (a' := 2) (b' := 7) (lv' := fun v9 => [(4, .int v9), (3, .int q_36), (5, .int q_36), (0, .ref fo), (1, .int n), (2, .int mo9)]) hx hb dX0_utmostOfSeeds_48 hl (k := 5) rfl (by decide) (fun _ => rfl) (zaddK (i := x_2.toInt) (j := 1) rfl (by decide) i15.1 n23 (Int.le_refl _) (Int.le_refl _) (by decide)) (fun x_54 ls hx_54 hl => ?_)
              refine lv_goto (tgt := 5) hx hb dX0_utmostOfSeeds_51 (by decide) ?_
              have hl := lv_sub (l' := [(0, .ref fo), (1, .int n), (2, .int mo9), (3, .int q_36), (4, .int x_54), (5, .int q_36)]) hl [3, 4, 5, 1, 0, 2] rfl
              have hP : va_P g.1 vwCl (List.flatten [bFo g fo o lo od, bTown g o a pe wo tx ch jo tr dy sd f, bLaw g lo lc lz ll lm2_24 lg2_25 ld2_26 fc, bTown g od ad pe3_27 wo3_28 tx3_29 ch3_30 jo3_31 tr3_32 dy3_33 sd3_34 f3_35]) H := hP
              have hD : va_D A (List.flatten [bFo g fo o lo od, bTown g o a pe wo tx ch jo tr dy sd f, bLaw g lo lc lz ll lm2_24 lg2_25 ld2_26 fc, bTown g od ad pe3_27 wo3_28 tx3_29 ch3_30 jo3_31 tr3_32 dy3_33 sd3_34 f3_35]) := hD
              exact ih5_19 q_36 x_54 lm2_24 lg2_25 ld2_26 pe3_27 wo3_28 tx3_29 ch3_30 jo3_31 tr3_32 dy3_33 sd3_34 f3_35 ⟨(Int.le_trans (by decide) hx_54.2.1), hx_54.2.2⟩ ⟨hq37_0.1, hq37_0.2⟩ ⟨hq37_1.1, hq37_1.2⟩ rf3_35 H _ ls (zmK hx_54.1 (by decide) n23 (by decide) hk5_19)  hP hD hS (lv_sub hl [0, 1, 2, 3, 4] rfl)
  have hP : va_P g.1 vwCl (List.flatten [bFo g fo o lo od, bTown g o a pe wo tx ch jo tr dy sd f, bLaw g lo lc lz ll lm lg ld fc, bTown g od ad ped wod txd chd jod trd dyd sdd fd]) s.heap := hP
  have hD : va_D A (List.flatten [bFo g fo o lo od, bTown g o a pe wo tx ch jo tr dy sd f, bLaw g lo lc lz ll lm lg ld fc, bTown g od ad ped wod txd chd jod trd dyd sdd fd]) := hD
  exact LP5_18 _ (-1) 1 lm lg ld ped wod txd chd jod trd dyd sdd fd (by decide) ⟨b_ped.1, b_ped.2⟩ ⟨b_wod.1, b_wod.2⟩ rfd s.heap _ ls (Nat.lt_succ_self _)  hP hD hS (lv_sub hl [0, 1, 2, 3, 4] rfl)
