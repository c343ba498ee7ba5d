set_option maxRecDepth 100000 in
set_option maxHeartbeats 4000000 in
theorem c_f_strongest (l : Launch) (g : zG) (fo : Nat) (o : Nat) (lo : Nat) (od : Nat) (a : Nat → Nat) (pe : Int32) (wo : Int32) (tx : Int32) (ch : Int32) (jo : Int32) (tr : Int32) (dy : Int32) (sd : Int32) (f : Nat → Nat → Int32) (lc : Nat) (lz : Int32) (ll : Int32) (lm : Int32) (lg : Int32) (ld : Int32) (fc : Nat → Int32) (ad : Nat → Nat) (ped : Int32) (wod : Int32) (txd : Int32) (chd : Int32) (jod : Int32) (trd : Int32) (dyd : Int32) (sdd : Int32) (fd : Nat → Nat → Int32) (n : Int32) (b_pe : 0 ≤ pe.toInt ∧ pe.toInt ≤ 8) (b_wo : 0 ≤ wo.toInt ∧ wo.toInt ≤ 6) (rf : zZ4 f) (b_lz : 0 ≤ lz.toInt ∧ lz.toInt ≤ 400) (b_ped : 0 ≤ ped.toInt ∧ ped.toInt ≤ 8) (b_wod : 0 ≤ wod.toInt ∧ wod.toInt ≤ 6) (rfd : zZ4 fd) (b_n : 0 ≤ n.toInt ∧ n.toInt ≤ 100) : zM' g l yX0_strongest (Cond.code yX0_strongest cX0_strongest 6 (some .int) :: zB) ({ frames := 7, cells := 0, slots := 0, locals := 152 } : Room) [.ref fo, .int n] [bFo g fo o lo od, bTown g o a pe wo tx ch jo tr dy sd f, bLaw g lo lc lz ll lm lg ld fc, bTown g od ad ped wod txd chd jod trd dyd sdd fd] (fun u : Int32 × Int32 × Int32 × Int32 × Int32 × Int32 × Int32 × Int32 × Int32 × Int32 × Int32 × (Nat → Nat → Int32) × Int32 => (fun (lm2 : Int32) (lg2 : Int32) (ld2 : Int32) (pe3 : Int32) (wo3 : Int32) (tx3 : Int32) (ch3 : Int32) (jo3 : Int32) (tr3 : Int32) (dy3 : Int32) (sd3 : Int32) (f3 : Nat → Nat → Int32) (q : Int32) => some (.int q)) (u.1) (u.2.1) (u.2.2.1) (u.2.2.2.1) (u.2.2.2.2.1) (u.2.2.2.2.2.1) (u.2.2.2.2.2.2.1) (u.2.2.2.2.2.2.2.1) (u.2.2.2.2.2.2.2.2.1) (u.2.2.2.2.2.2.2.2.2.1) (u.2.2.2.2.2.2.2.2.2.2.1) (u.2.2.2.2.2.2.2.2.2.2.2.1) (u.2.2.2.2.2.2.2.2.2.2.2.2)) (fun u : Int32 × Int32 × Int32 × Int32 × Int32 × Int32 × Int32 × Int32 × Int32 × Int32 × Int32 × (Nat → Nat → Int32) × Int32 => (fun (lm2 : Int32) (lg2 : Int32) (ld2 : Int32) (pe3 : Int32) (wo3 : Int32) (tx3 : Int32) (ch3 : Int32) (jo3 : Int32) (tr3 : Int32) (dy3 : Int32) (sd3 : Int32) (f3 : Nat → Nat → Int32) (q : Int32) => (0 ≤ pe3.toInt ∧ pe3.toInt ≤ 8) ∧ (0 ≤ wo3.toInt ∧ wo3.toInt ≤ 6) ∧ (zZ4 f3)) (u.1) (u.2.1) (u.2.2.1) (u.2.2.2.1) (u.2.2.2.2.1) (u.2.2.2.2.2.1) (u.2.2.2.2.2.2.1) (u.2.2.2.2.2.2.2.1) (u.2.2.2.2.2.2.2.2.1) (u.2.2.2.2.2.2.2.2.2.1) (u.2.2.2.2.2.2.2.2.2.2.1) (u.2.2.2.2.2.2.2.2.2.2.2.1) (u.2.2.2.2.2.2.2.2.2.2.2.2)) (fun u : Int32 × Int32 × Int32 × Int32 × Int32 × Int32 × Int32 × Int32 × Int32 × Int32 × Int32 × (Nat → Nat → Int32) × Int32 => (fun (lm2 : Int32) (lg2 : Int32) (ld2 : Int32) (pe3 : Int32) (wo3 : Int32) (tx3 : Int32) (ch3 : Int32) (jo3 : Int32) (tr3 : Int32) (dy3 : Int32) (sd3 : Int32) (f3 : Nat → Nat → Int32) (q : Int32) => [bFo g fo o lo od, bTown g o a pe wo tx ch jo tr dy sd f, bLaw g lo lc lz ll lm2 lg2 ld2 fc, bTown g od ad pe3 wo3 tx3 ch3 jo3 tr3 dy3 sd3 f3]) (u.1) (u.2.1) (u.2.2.1) (u.2.2.2.1) (u.2.2.2.2.1) (u.2.2.2.2.2.1) (u.2.2.2.2.2.2.1) (u.2.2.2.2.2.2.2.1) (u.2.2.2.2.2.2.2.2.1) (u.2.2.2.2.2.2.2.2.2.1) (u.2.2.2.2.2.2.2.2.2.2.1) (u.2.2.2.2.2.2.2.2.2.2.2.1) (u.2.2.2.2.2.2.2.2.2.2.2.2)) := by
  refine zM'.of (cc := cX0_strongest) (maxL := 6) (rt := (some .int)) (by decide) rfl (Nat.le_of_ble_eq_true rfl) ?_
  intro p e s m args below meth c A ls St hr hlocks hin hK hT hA hP hD hS hl
  obtain ⟨hx, hb, hml, hown, hts⟩ := id St
  have hl : lv_has ls 6 [(0, .ref fo), (1, .int n)] := hl
  refine lv_iconst (v := (-1)) hx hb dX0_strongest_0 (by decide) ?_
  refine lv_istore_n (lv' := [(2, .int (-1)), (0, .ref fo), (1, .int n)]) hx hb dX0_strongest_1 rfl hl (by decide) rfl (fun ls hl => ?_)
  refine lv_iconst (v := 0) hx hb dX0_strongest_2 (by decide) ?_
  refine lv_istore_n (lv' := [(3, .int 0), (2, .int (-1)), (0, .ref fo), (1, .int n)]) hx hb dX0_strongest_3 rfl hl (by decide) rfl (fun ls hl => ?_)
  refine lv_iconst (v := 0) hx hb dX0_strongest_4 (by decide) ?_
  refine lv_istore (lv' := [(4, .int 0), (3, .int 0), (2, .int (-1)), (0, .ref fo), (1, .int n)]) hx hb dX0_strongest_5 hl (by decide) rfl (fun ls hl => ?_)
  have hl := lv_sub (l' := [(0, .ref fo), (1, .int n), (2, .int (-1)), (3, .int 0), (4, .int 0)]) hl [3, 4, 2, 1, 0] rfl
  have LP7_20 : ∀ (kf : Nat) (x_1 : Int32) (x_2 : Int32) (x_3 : Int32) (x_4 : Int32) (x_5 : Int32) (x_6 : Int32) (x_7 : Int32) (x_8 : Int32) (x_9 : Int32) (x_10 : Int32) (x_11 : Int32) (x_12 : Int32) (x_13 : Int32) (x_14 : Int32) (f_15 : Nat → Nat → Int32), ((-1) ≤ x_1.toInt ∧ x_1.toInt ≤ 7) → (0 ≤ x_3.toInt ∧ x_3.toInt ≤ 8) → (0 ≤ x_7.toInt ∧ x_7.toInt ≤ 8) → (0 ≤ x_8.toInt ∧ x_8.toInt ≤ 6) → (zZ4 f_15) → ∀ (H : Heap) (locs : List Loc) (ls : Array Slot), ((9 - x_3.toInt).toNat) < kf → va_P g.1 vwCl (List.flatten [bFo g fo o lo od, bTown g o a pe wo tx ch jo tr dy sd f, bLaw g lo lc lz ll x_4 x_5 x_6 fc, bTown g od ad x_7 x_8 x_9 x_10 x_11 x_12 x_13 x_14 f_15]) H → va_D A (List.flatten [bFo g fo o lo od, bTown g o a pe wo tx ch jo tr dy sd f, bLaw g lo lc lz ll x_4 x_5 x_6 fc, bTown g od ad x_7 x_8 x_9 x_10 x_11 x_12 x_13 x_14 f_15]) → va_S A s.heap H locs → lv_has ls 6 [(0, .ref fo), (1, .int n), (2, .int x_1), (3, .int x_2), (4, .int x_3)] → W p l e ({ frames := 7, cells := 0, slots := 0, locals := 152 } : Room) s m args below meth c H locs (0) (0) (zF g (fun u : Int32 × Int32 × Int32 × Int32 × Int32 × Int32 × Int32 × Int32 × Int32 × Int32 × Int32 × (Nat → Nat → Int32) × Int32 => (fun (lm2 : Int32) (lg2 : Int32) (ld2 : Int32) (pe3 : Int32) (wo3 : Int32) (tx3 : Int32) (ch3 : Int32) (jo3 : Int32) (tr3 : Int32) (dy3 : Int32) (sd3 : Int32) (f3 : Nat → Nat → Int32) (q : Int32) => some (.int q)) (u.1) (u.2.1) (u.2.2.1) (u.2.2.2.1) (u.2.2.2.2.1) (u.2.2.2.2.2.1) (u.2.2.2.2.2.2.1) (u.2.2.2.2.2.2.2.1) (u.2.2.2.2.2.2.2.2.1) (u.2.2.2.2.2.2.2.2.2.1) (u.2.2.2.2.2.2.2.2.2.2.1) (u.2.2.2.2.2.2.2.2.2.2.2.1) (u.2.2.2.2.2.2.2.2.2.2.2.2)) (fun u : Int32 × Int32 × Int32 × Int32 × Int32 × Int32 × Int32 × Int32 × Int32 × Int32 × Int32 × (Nat → Nat → Int32) × Int32 => (fun (lm2 : Int32) (lg2 : Int32) (ld2 : Int32) (pe3 : Int32) (wo3 : Int32) (tx3 : Int32) (ch3 : Int32) (jo3 : Int32) (tr3 : Int32) (dy3 : Int32) (sd3 : Int32) (f3 : Nat → Nat → Int32) (q : Int32) => (0 ≤ pe3.toInt ∧ pe3.toInt ≤ 8) ∧ (0 ≤ wo3.toInt ∧ wo3.toInt ≤ 6) ∧ (zZ4 f3)) (u.1) (u.2.1) (u.2.2.1) (u.2.2.2.1) (u.2.2.2.2.1) (u.2.2.2.2.2.1) (u.2.2.2.2.2.2.1) (u.2.2.2.2.2.2.2.1) (u.2.2.2.2.2.2.2.2.1) (u.2.2.2.2.2.2.2.2.2.1) (u.2.2.2.2.2.2.2.2.2.2.1) (u.2.2.2.2.2.2.2.2.2.2.2.1) (u.2.2.2.2.2.2.2.2.2.2.2.2)) (fun u : Int32 × Int32 × Int32 × Int32 × Int32 × Int32 × Int32 × Int32 × Int32 × Int32 × Int32 × (Nat → Nat → Int32) × Int32 => (fun (lm2 : Int32) (lg2 : Int32) (ld2 : Int32) (pe3 : Int32) (wo3 : Int32) (tx3 : Int32) (ch3 : Int32) (jo3 : Int32) (tr3 : Int32) (dy3 : Int32) (sd3 : Int32) (f3 : Nat → Nat → Int32) (q : Int32) => [bFo g fo o lo od, bTown g o a pe wo tx ch jo tr dy sd f, bLaw g lo lc lz ll lm2 lg2 ld2 fc, bTown g od ad pe3 wo3 tx3 ch3 jo3 tr3 dy3 sd3 f3]) (u.1) (u.2.1) (u.2.2.1) (u.2.2.2.1) (u.2.2.2.2.1) (u.2.2.2.2.2.1) (u.2.2.2.2.2.2.1) (u.2.2.2.2.2.2.2.1) (u.2.2.2.2.2.2.2.2.1) (u.2.2.2.2.2.2.2.2.2.1) (u.2.2.2.2.2.2.2.2.2.2.1) (u.2.2.2.2.2.2.2.2.2.2.2.1) (u.2.2.2.2.2.2.2.2.2.2.2.2)) ({ frames := 7, cells := 0, slots := 0, locals := 152 } : Room) below args s A) (F0 m 7 ls []) := by
    intro kf
    induction kf with
    | zero => intro x_1 x_2 x_3 x_4 x_5 x_6 x_7 x_8 x_9 x_10 x_11 x_12 x_13 x_14 f_15 i16 i17 i18 i19 rf_15 H locs ls hk; exact absurd hk (Nat.not_lt_zero _)
    | succ kf ih7_21 =>
      intro x_1 x_2 x_3 x_4 x_5 x_6 x_7 x_8 x_9 x_10 x_11 x_12 x_13 x_14 f_15 i16 i17 i18 i19 rf_15 H locs ls hk7_21 hP hD hS hl
      refine lv_iload hx hb dX0_strongest_7 (lv_at hl 4 rfl) ?_
      refine lv_aload_n hx hb dX0_strongest_9 rfl (lv_at hl 0 rfl) ?_
      refine va_get (D := g.1) (ci := 0) (v := .ref o) (C := RX0) (T := TX0) (N := 3) hx hb hts izRX0 hown hK hP 0 rfl rfl 0 (by decide) (hts _ k26) (fun _ h9 => h9) rfl dX0_strongest_10 ?_
      refine va_get (D := g.1) (ci := 7) (v := .int pe) (C := RX9) (T := TX9) (N := 19) hx hb hts izRX9 hown hK hP 1 rfl rfl 0 (by decide) (hts _ k155) (fun _ h9 => h9) rfl dX0_strongest_13 ?_
      refine lv_icmp_ge (tgt := 67) hx hb dX0_strongest_16 (by decide) (fun cb9 => ?_) (fun cb9 => ?_)
      · skip
        have c22 : pe.toInt ≤ x_3.toInt := zle cb9 rfl rfl
        refine lv_iload_n hx hb dX0_strongest_67 rfl (lv_at hl 2 rfl) ?_
        have hP : va_P g.1 vwCl (List.flatten [bFo g fo o lo od, bTown g o a pe wo tx ch jo tr dy sd f, bLaw g lo lc lz ll x_4 x_5 x_6 fc, bTown g od ad x_7 x_8 x_9 x_10 x_11 x_12 x_13 x_14 f_15]) H := hP
        have hD : va_D A (List.flatten [bFo g fo o lo od, bTown g o a pe wo tx ch jo tr dy sd f, bLaw g lo lc lz ll x_4 x_5 x_6 fc, bTown g od ad x_7 x_8 x_9 x_10 x_11 x_12 x_13 x_14 f_15]) := hD
        exact mret_i hx hb hr hlocks hS (Nat.le_of_ble_eq_true rfl) (Nat.le_of_ble_eq_true rfl) dX0_strongest_68 (x_4, x_5, x_6, x_7, x_8, x_9, x_10, x_11, x_12, x_13, x_14, f_15, x_1) rfl (show (0 ≤ x_7.toInt ∧ x_7.toInt ≤ 8) ∧ (0 ≤ x_8.toInt ∧ x_8.toInt ≤ 6) ∧ (zZ4 f_15) from ⟨i18, i19, rf_15⟩) hP hD
      · skip
        have c23 : x_3.toInt < pe.toInt := zlti (Int32.not_le.mp cb9) rfl rfl
        have n24 : x_3.toInt ≤ 7 := zL1 (b := 8) c23 b_pe.2 (by decide)
        have n25 : 1 ≤ pe.toInt := zL2 (a := 0) c23 i17.1 (by decide)
        refine lv_aload_n hx hb dX0_strongest_19 rfl (lv_at hl 0 rfl) ?_
        refine va_get (D := g.1) (ci := 0) (v := .ref o) (C := RX0) (T := TX0) (N := 3) hx hb hts izRX0 hown hK hP 0 rfl rfl 0 (by decide) (hts _ k26) (fun _ h9 => h9) rfl dX0_strongest_20 ?_
        refine lv_iload hx hb dX0_strongest_23 (lv_at hl 4 rfl) ?_
        refine mcallV' (g := g) (q0 := 0) (ci := 7) (As := [.int x_3]) (rest := []) St hK hT hA hP hD hS hl.1 [1] [0, 2, 3] rfl rfl rfl (c_isHere l g o a pe wo tx ch jo tr dy sd f x_3 (⟨i17.1, n24⟩)) (cwV 1 hts (zgL (zl4 k165 k54 k55 k24) k51) rfl rfl rfl (by decide +kernel) ⟨Nat.le_of_ble_eq_true rfl, Nat.le_of_ble_eq_true rfl⟩) rfl rfl rfl rfl (Nat.le_of_ble_eq_true rfl) dX0_strongest_25 ⟨(Nat.le_of_ble_eq_true rfl), (Nat.le_of_ble_eq_true rfl)⟩ (fun q_26 H locs hq27 hP hD hS => ?_)
        replace hq27 : (q_26 = 0 ∨ q_26 = 1) := hq27
        have hP : va_P g.1 vwCl (List.flatten [bFo g fo o lo od, bLaw g lo lc lz ll x_4 x_5 x_6 fc, bTown g od ad x_7 x_8 x_9 x_10 x_11 x_12 x_13 x_14 f_15, bTown g o a pe wo tx ch jo tr dy sd f]) H := hP
        have hD : va_D A (List.flatten [bFo g fo o lo od, bLaw g lo lc lz ll x_4 x_5 x_6 fc, bTown g od ad x_7 x_8 x_9 x_10 x_11 x_12 x_13 x_14 f_15, bTown g o a pe wo tx ch jo tr dy sd f]) := hD
        refine W.widen (k := 0) (n := 0) (Nat.le_of_ble_eq_true rfl) (Nat.le_of_ble_eq_true rfl) ?_
        refine W.eq (g2 := F0 m 28 ls [.int q_26]) rfl ?_
        rcases hq27 with rfl | rfl
        · skip
          refine lv_if_eq (tgt := 61) hx hb dX0_strongest_28 (by decide) (fun _ => ?_) (fun c28 => absurd (by decide) c28)
          refine ziinc3 (n' := 1) (a' := 1) (b' := 8) (lv' := fun v9 => [(4, .int v9), (0, .ref fo), (1, .int n), (2, .int x_1), (3, .int x_2)]) hx hb dX0_strongest_61 hl (k := 4) rfl (by decide) (fun _ => rfl) (zaddK (i := x_3.toInt) (j := 1) rfl (by decide) i17.1 n24 (Int.le_refl _) (Int.le_refl _) (by decide)) (fun x_29 ls hx_29 hl => ?_)
          refine lv_goto (tgt := 7) hx hb dX0_strongest_64 (by decide) ?_
          have hl := lv_sub (l' := [(0, .ref fo), (1, .int n), (2, .int x_1), (3, .int x_2), (4, .int x_29)]) hl [1, 2, 3, 4, 0] rfl
          have hP : va_P g.1 vwCl (List.flatten [bFo g fo o lo od, bLaw g lo lc lz ll x_4 x_5 x_6 fc, bTown g od ad x_7 x_8 x_9 x_10 x_11 x_12 x_13 x_14 f_15, bTown g o a pe wo tx ch jo tr dy sd f]) H := hP
          have hD : va_D A (List.flatten [bFo g fo o lo od, bLaw g lo lc lz ll x_4 x_5 x_6 fc, bTown g od ad x_7 x_8 x_9 x_10 x_11 x_12 x_13 x_14 f_15, bTown g o a pe wo tx ch jo tr dy sd f]) := hD
          obtain ⟨hP, hD⟩ := zord (g := g) (Bs' := [bFo g fo o lo od, bTown g o a pe wo tx ch jo tr dy sd f, bLaw g lo lc lz ll x_4 x_5 x_6 fc, bTown g od ad x_7 x_8 x_9 x_10 x_11 x_12 x_13 x_14 f_15]) [0, 3, 1, 2] rfl rfl hP hD
          have hP : va_P g.1 vwCl (List.flatten [bFo g fo o lo od, bTown g o a pe wo tx ch jo tr dy sd f, bLaw g lo lc lz ll x_4 x_5 x_6 fc, bTown g od ad x_7 x_8 x_9 x_10 x_11 x_12 x_13 x_14 f_15]) H := hP
          have hD : va_D A (List.flatten [bFo g fo o lo od, bTown g o a pe wo tx ch jo tr dy sd f, bLaw g lo lc lz ll x_4 x_5 x_6 fc, bTown g od ad x_7 x_8 x_9 x_10 x_11 x_12 x_13 x_14 f_15]) := hD
          exact ih7_21 x_1 x_2 x_29 x_4 x_5 x_6 x_7 x_8 x_9 x_10 x_11 x_12 x_13 x_14 f_15 ⟨i16.1, i16.2⟩ ⟨(Int.le_trans (by decide) hx_29.2.1), hx_29.2.2⟩ ⟨i18.1, i18.2⟩ ⟨i19.1, i19.2⟩ rf_15 H _ ls (zmK hx_29.1 (by decide) n24 (by decide) hk7_21)  hP hD hS (lv_sub hl [0, 1, 2, 3, 4] rfl)
        · skip
          refine lv_if_eq (tgt := 61) hx hb dX0_strongest_28 (by decide) (fun c30 => absurd c30 (by decide)) (fun _ => ?_)
          refine lv_aload_n hx hb dX0_strongest_31 rfl (lv_at hl 0 rfl) ?_
          refine lv_iconst (v := 1) hx hb dX0_strongest_32 (by decide) ?_
          refine lv_iload hx hb dX0_strongest_33 (lv_at hl 4 rfl) ?_
          refine lv_ishl hx hb dX0_strongest_35 ?_
          refine zgb (zshl1 (j := x_3.toInt) rfl 7 128 (by decide) (by decide) ⟨i17.1, n24⟩) (fun x_31 hx_31 => ?_)
          refine lv_bipush (v := 10) hx hb dX0_strongest_36 (by decide) ?_
          refine lv_iload_n hx hb dX0_strongest_38 rfl (lv_at hl 1 rfl) ?_
          refine mcallV' (g := g) (q0 := 0) (ci := 0) (As := [.int x_31, .int 10, .int n]) (rest := []) St hK hT hA hP hD hS hl.1 [0, 3, 1, 2] [] rfl rfl rfl (c_f_lookAhead l g fo o lo od a pe wo tx ch jo tr dy sd f lc lz ll x_4 x_5 x_6 fc ad x_7 x_8 x_9 x_10 x_11 x_12 x_13 x_14 f_15 x_31 10 n b_pe b_wo rf b_lz i18 i19 rf_15 b_n) (cwV 3 hts (zgL (zl4 k166 k167 k168 k169) k164) rfl rfl rfl (by decide +kernel) ⟨Nat.le_of_ble_eq_true rfl, Nat.le_of_ble_eq_true rfl⟩) rfl rfl rfl rfl (Nat.le_of_ble_eq_true rfl) dX0_strongest_39 ⟨(Nat.le_of_ble_eq_true rfl), (Nat.le_of_ble_eq_true rfl)⟩ (fun u_ H locs hq45 hP hD hS => ?_)
          obtain ⟨lm2_32, lg2_33, ld2_34, pe3_35, wo3_36, tx3_37, ch3_38, jo3_39, tr3_40, dy3_41, sd3_42, f3_43, q_44⟩ := u_
          replace hq45 : (0 ≤ pe3_35.toInt ∧ pe3_35.toInt ≤ 8) ∧ (0 ≤ wo3_36.toInt ∧ wo3_36.toInt ≤ 6) ∧ (zZ4 f3_43) := hq45
          have hP : va_P g.1 vwCl (List.flatten [bFo g fo o lo od, bTown g o a pe wo tx ch jo tr dy sd f, bLaw g lo lc lz ll lm2_32 lg2_33 ld2_34 fc, bTown g od ad pe3_35 wo3_36 tx3_37 ch3_38 jo3_39 tr3_40 dy3_41 sd3_42 f3_43]) H := hP
          have hD : va_D A (List.flatten [bFo g fo o lo od, bTown g o a pe wo tx ch jo tr dy sd f, bLaw g lo lc lz ll lm2_32 lg2_33 ld2_34 fc, bTown g od ad pe3_35 wo3_36 tx3_37 ch3_38 jo3_39 tr3_40 dy3_41 sd3_42 f3_43]) := hD
          refine W.widen (k := 0) (n := 0) (Nat.le_of_ble_eq_true rfl) (Nat.le_of_ble_eq_true rfl) ?_
          refine W.eq (g2 := F0 m 42 ls [.int q_44]) rfl ?_
          obtain ⟨hq45_0, hq45_1, rf3_43⟩ := hq45
          refine lv_istore (lv' := [(5, .int q_44), (0, .ref fo), (1, .int n), (2, .int x_1), (3, .int x_2), (4, .int x_3)]) hx hb dX0_strongest_42 hl (by decide) rfl (fun ls hl => ?_)
          refine lv_iload_n hx hb dX0_strongest_44 rfl (lv_at hl 3 rfl) ?_
          refine lv_iconst (v := (-1)) hx hb dX0_strongest_45 (by decide) ?_
          refine lv_icmp_eq (tgt := 55) hx hb dX0_strongest_46 (by decide) (fun cb9 => ?_) (fun cb9 => ?_)
          · skip
            have c46 : x_1.toInt = (-1) := zeq cb9 rfl (by decide)
            have n47 : x_1.toInt ≤ (-1) := Int.le_trans (Int.le_of_eq c46) (Int.le_refl _)
            refine lv_iload hx hb dX0_strongest_55 (lv_at hl 5 rfl) ?_
            refine lv_istore_n (lv' := [(2, .int x_3), (5, .int q_44), (0, .ref fo), (1, .int n), (3, .int x_2), (4, .int x_3)]) hx hb dX0_strongest_57 rfl hl (by decide) rfl (fun ls hl => ?_)
            refine lv_iload hx hb dX0_strongest_58 (lv_at hl 1 rfl) ?_
            refine lv_istore_n (lv' := [(3, .int q_44), (2, .int x_3), (5, .int q_44), (0, .ref fo), (1, .int n), (4, .int x_3)]) hx hb dX0_strongest_60 rfl hl (by decide) rfl (fun ls hl => ?_)
            refine ziinc3 (n' := 1) (a' := 1) (b' := 8) (lv' := fun v9 => [(4, .int v9), (3, .int q_44), (2, .int x_3), (5, .int q_44), (0, .ref fo), (1, .int n)]) hx hb dX0_strongest_61 hl (k := 5) rfl (by decide) (fun _ => rfl) (zaddK (i := x_3.toInt) (j := 1) rfl (by decide) i17.1 n24 (Int.le_refl _) (Int.le_refl _) (by decide)) (fun x_48 ls hx_48 hl => ?_)
            refine lv_goto (tgt := 7) hx hb dX0_strongest_64 (by decide) ?_
            have hl := lv_sub (l' := [(0, .ref fo), (1, .int n), (2, .int x_3), (3, .int q_44), (4, .int x_48), (5, .int q_44)]) hl [4, 5, 2, 1, 0, 3] rfl
            have hP : va_P g.1 vwCl (List.flatten [bFo g fo o lo od, bTown g o a pe wo tx ch jo tr dy sd f, bLaw g lo lc lz ll lm2_32 lg2_33 ld2_34 fc, bTown g od ad pe3_35 wo3_36 tx3_37 ch3_38 jo3_39 tr3_40 dy3_41 sd3_42 f3_43]) H := hP
            have hD : va_D A (List.flatten [bFo g fo o lo od, bTown g o a pe wo tx ch jo tr dy sd f, bLaw g lo lc lz ll lm2_32 lg2_33 ld2_34 fc, bTown g od ad pe3_35 wo3_36 tx3_37 ch3_38 jo3_39 tr3_40 dy3_41 sd3_42 f3_43]) := hD
            exact ih7_21 x_3 q_44 x_48 lm2_32 lg2_33 ld2_34 pe3_35 wo3_36 tx3_37 ch3_38 jo3_39 tr3_40 dy3_41 sd3_42 f3_43 ⟨(Int.le_trans (by decide) i17.1), n24⟩ ⟨(Int.le_trans (by decide) hx_48.2.1), hx_48.2.2⟩ ⟨hq45_0.1, hq45_0.2⟩ ⟨hq45_1.1, hq45_1.2⟩ rf3_43 H _ ls (zmK hx_48.1 (by decide) n24 (by decide) hk7_21)  hP hD hS (lv_sub hl [0, 1, 2, 3, 4] rfl)
          · skip
            have c49 : ¬ x_1.toInt = (-1) := zne cb9 rfl (by decide)
            have n50 : 0 ≤ x_1.toInt := zN1 c49 i16.1 (by decide)
            refine lv_iload hx hb dX0_strongest_49 (lv_at hl 0 rfl) ?_
            refine lv_iload_n hx hb dX0_strongest_51 rfl (lv_at hl 4 rfl) ?_
            refine lv_icmp_le (tgt := 61) hx hb dX0_strongest_52 (by decide) (fun cb9 => ?_) (fun cb9 => ?_)
            · skip
              have c51 : q_44.toInt ≤ x_2.toInt := zle cb9 rfl rfl
              refine ziinc3 (n' := 1) (a' := 1) (b' := 8) (lv' := fun v9 => [(4, .int v9), (5, .int q_44), (0, .ref fo), (1, .int n), (2, .int x_1), (3, .int x_2)]) hx hb dX0_strongest_61 hl (k := 5) rfl (by decide) (fun _ => rfl) (zaddK (i := x_3.toInt) (j := 1) rfl (by decide) i17.1 n24 (Int.le_refl _) (Int.le_refl _) (by decide)) (fun x_52 ls hx_52 hl => ?_)
              refine lv_goto (tgt := 7) hx hb dX0_strongest_64 (by decide) ?_
              have hl := lv_sub (l' := [(0, .ref fo), (1, .int n), (2, .int x_1), (3, .int x_2), (4, .int x_52), (5, .int q_44)]) hl [2, 3, 4, 5, 0, 1] rfl
              have hP : va_P g.1 vwCl (List.flatten [bFo g fo o lo od, bTown g o a pe wo tx ch jo tr dy sd f, bLaw g lo lc lz ll lm2_32 lg2_33 ld2_34 fc, bTown g od ad pe3_35 wo3_36 tx3_37 ch3_38 jo3_39 tr3_40 dy3_41 sd3_42 f3_43]) H := hP
              have hD : va_D A (List.flatten [bFo g fo o lo od, bTown g o a pe wo tx ch jo tr dy sd f, bLaw g lo lc lz ll lm2_32 lg2_33 ld2_34 fc, bTown g od ad pe3_35 wo3_36 tx3_37 ch3_38 jo3_39 tr3_40 dy3_41 sd3_42 f3_43]) := hD
              exact ih7_21 x_1 x_2 x_52 lm2_32 lg2_33 ld2_34 pe3_35 wo3_36 tx3_37 ch3_38 jo3_39 tr3_40 dy3_41 sd3_42 f3_43 ⟨(Int.le_trans (by decide) n50), i16.2⟩ ⟨(Int.le_trans (by decide) hx_52.2.1), hx_52.2.2⟩ ⟨hq45_0.1, hq45_0.2⟩ ⟨hq45_1.1, hq45_1.2⟩ rf3_43 H _ ls (zmK hx_52.1 (by decide) n24 (by decide) hk7_21)  hP hD hS (lv_sub hl [0, 1, 2, 3, 4] rfl)
            · skip
              have c53 : x_2.toInt < q_44.toInt := zlti (Int32.not_le.mp cb9) rfl rfl
              refine lv_iload hx hb dX0_strongest_55 (lv_at hl 5 rfl) ?_
              refine lv_istore_n (lv' := [(2, .int x_3), (5, .int q_44), (0, .ref fo), (1, .int n), (3, .int x_2), (4, .int x_3)]) hx hb dX0_strongest_57 rfl hl (by decide) rfl (fun ls hl => ?_)
              refine lv_iload hx hb dX0_strongest_58 (lv_at hl 1 rfl) ?_
              refine lv_istore_n (lv' := [(3, .int q_44), (2, .int x_3), (5, .int q_44), (0, .ref fo), (1, .int n), (4, .int x_3)]) hx hb dX0_strongest_60 rfl hl (by decide) rfl (fun ls hl => ?_)
              refine ziinc3 (n' := 1) (a' := 1) (b' := 8) (lv' := fun v9 => [(4, .int v9), (3, .int q_44), (2, .int x_3), (5, .int q_44), (0, .ref fo), (1, .int n)]) hx hb dX0_strongest_61 hl (k := 5) rfl (by decide) (fun _ => rfl) (zaddK (i := x_3.toInt) (j := 1) rfl (by decide) i17.1 n24 (Int.le_refl _) (Int.le_refl _) (by decide)) (fun x_54 ls hx_54 hl => ?_)
              refine lv_goto (tgt := 7) hx hb dX0_strongest_64 (by decide) ?_
              have hl := lv_sub (l' := [(0, .ref fo), (1, .int n), (2, .int x_3), (3, .int q_44), (4, .int x_54), (5, .int q_44)]) hl [4, 5, 2, 1, 0, 3] rfl
              have hP : va_P g.1 vwCl (List.flatten [bFo g fo o lo od, bTown g o a pe wo tx ch jo tr dy sd f, bLaw g lo lc lz ll lm2_32 lg2_33 ld2_34 fc, bTown g od ad pe3_35 wo3_36 tx3_37 ch3_38 jo3_39 tr3_40 dy3_41 sd3_42 f3_43]) H := hP
              have hD : va_D A (List.flatten [bFo g fo o lo od, bTown g o a pe wo tx ch jo tr dy sd f, bLaw g lo lc lz ll lm2_32 lg2_33 ld2_34 fc, bTown g od ad pe3_35 wo3_36 tx3_37 ch3_38 jo3_39 tr3_40 dy3_41 sd3_42 f3_43]) := hD
              exact ih7_21 x_3 q_44 x_54 lm2_32 lg2_33 ld2_34 pe3_35 wo3_36 tx3_37 ch3_38 jo3_39 tr3_40 dy3_41 sd3_42 f3_43 ⟨(Int.le_trans (by decide) i17.1), n24⟩ ⟨(Int.le_trans (by decide) hx_54.2.1), hx_54.2.2⟩ ⟨hq45_0.1, hq45_0.2⟩ ⟨hq45_1.1, hq45_1.2⟩ rf3_43 H _ ls (zmK hx_54.1 (by decide) n24 (by decide) hk7_21)  hP hD hS (lv_sub hl [0, 1, 2, 3, 4] rfl)
  have hP : va_P g.1 vwCl (List.flatten [bFo g fo o lo od, bTown g o a pe wo tx ch jo tr dy sd f, bLaw g lo lc lz ll lm lg ld fc, bTown g od ad ped wod txd chd jod trd dyd sdd fd]) s.heap := hP
  have hD : va_D A (List.flatten [bFo g fo o lo od, bTown g o a pe wo tx ch jo tr dy sd f, bLaw g lo lc lz ll lm lg ld fc, bTown g od ad ped wod txd chd jod trd dyd sdd fd]) := hD
  exact LP7_20 _ (-1) 0 0 lm lg ld ped wod txd chd jod trd dyd sdd fd (by decide) (by decide) ⟨b_ped.1, b_ped.2⟩ ⟨b_wod.1, b_wod.2⟩ rfd s.heap _ ls (Nat.lt_succ_self _)  hP hD hS (lv_sub hl [0, 1, 2, 3, 4] rfl)
