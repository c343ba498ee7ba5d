set_option maxRecDepth 100000 in
set_option maxHeartbeats 4000000 in
theorem c_tt_readLines (l : Launch) (g : zG) (tt : Nat) (ta : Nat) (o : Nat) (ab : Nat) (sz : Int32) (ln : Int32) (kd : Int32) (bg : Int32) (nx : Int32) (ft : Int32) (fb : Nat → Int32) (a : Nat → Nat) (pe : Int32) (wo : Int32) (tx : Int32) (ch : Int32) (jo : Int32) (tr : Int32) (dy : Int32) (sd : Int32) (f : Nat → Nat → Int32) (mo : Int32) (b_pe : 0 ≤ pe.toInt ∧ pe.toInt ≤ 8) (b_wo : 0 ≤ wo.toInt ∧ wo.toInt ≤ 6) (rf : zZ4 f) (b_mo : 0 ≤ mo.toInt ∧ mo.toInt ≤ 20) (hln : 0 ≤ ln.toInt ∧ ln.toInt ≤ 400) (hnx : 0 ≤ nx.toInt ∧ nx.toInt ≤ 400) (hbg : 0 ≤ bg.toInt ∧ bg.toInt ≤ 400) (hkd : zKd kd.toInt bg.toInt nx.toInt) (hft : -1 ≤ ft.toInt) : zM' g l yX7_readLines (Cond.code yX7_readLines cX7_readLines 3 (some .int) :: zB) ({ frames := 9, cells := 0, slots := 0, locals := 193 } : Room) [.ref tt, .int mo] [bTT g tt ta o, bTape g ta ab sz ln kd bg nx ft fb, bTown g o a pe wo tx ch jo tr dy sd f] (fun u : Int32 × Int32 × Int32 × Int32 × Int32 × Int32 × Int32 × Int32 × Int32 × Int32 × (Nat → Nat → Int32) × Int32 => (fun (kd2 : Int32) (bg2 : Int32) (nx2 : Int32) (ft2 : Int32) (pe2 : Int32) (wo2 : Int32) (ch2 : Int32) (jo2 : Int32) (tr2 : Int32) (dy2 : Int32) (f2 : Nat → Nat → Int32) (q : Int32) => some (.int q)) (u.1) (u.2.1) (u.2.2.1) (u.2.2.2.1) (u.2.2.2.2.1) (u.2.2.2.2.2.1) (u.2.2.2.2.2.2.1) (u.2.2.2.2.2.2.2.1) (u.2.2.2.2.2.2.2.2.1) (u.2.2.2.2.2.2.2.2.2.1) (u.2.2.2.2.2.2.2.2.2.2.1) (u.2.2.2.2.2.2.2.2.2.2.2)) (fun u : Int32 × Int32 × Int32 × Int32 × Int32 × Int32 × Int32 × Int32 × Int32 × Int32 × (Nat → Nat → Int32) × Int32 => (fun (kd2 : Int32) (bg2 : Int32) (nx2 : Int32) (ft2 : Int32) (pe2 : Int32) (wo2 : Int32) (ch2 : Int32) (jo2 : Int32) (tr2 : Int32) (dy2 : Int32) (f2 : Nat → Nat → Int32) (q : Int32) => (0 ≤ pe2.toInt ∧ pe2.toInt ≤ 8) ∧ (0 ≤ wo2.toInt ∧ wo2.toInt ≤ 6) ∧ (zZ4 f2) ∧ (-1 ≤ ft2.toInt) ∧ (0 ≤ nx2.toInt ∧ nx2.toInt ≤ 400) ∧ (0 ≤ bg2.toInt ∧ bg2.toInt ≤ 400) ∧ (zKd kd2.toInt bg2.toInt nx2.toInt)) (u.1) (u.2.1) (u.2.2.1) (u.2.2.2.1) (u.2.2.2.2.1) (u.2.2.2.2.2.1) (u.2.2.2.2.2.2.1) (u.2.2.2.2.2.2.2.1) (u.2.2.2.2.2.2.2.2.1) (u.2.2.2.2.2.2.2.2.2.1) (u.2.2.2.2.2.2.2.2.2.2.1) (u.2.2.2.2.2.2.2.2.2.2.2)) (fun u : Int32 × Int32 × Int32 × Int32 × Int32 × Int32 × Int32 × Int32 × Int32 × Int32 × (Nat → Nat → Int32) × Int32 => (fun (kd2 : Int32) (bg2 : Int32) (nx2 : Int32) (ft2 : Int32) (pe2 : Int32) (wo2 : Int32) (ch2 : Int32) (jo2 : Int32) (tr2 : Int32) (dy2 : Int32) (f2 : Nat → Nat → Int32) (q : Int32) => [bTT g tt ta o, bTape g ta ab sz ln kd2 bg2 nx2 ft2 fb, bTown g o a pe2 wo2 tx ch2 jo2 tr2 dy2 sd f2]) (u.1) (u.2.1) (u.2.2.1) (u.2.2.2.1) (u.2.2.2.2.1) (u.2.2.2.2.2.1) (u.2.2.2.2.2.2.1) (u.2.2.2.2.2.2.2.1) (u.2.2.2.2.2.2.2.2.1) (u.2.2.2.2.2.2.2.2.2.1) (u.2.2.2.2.2.2.2.2.2.2.1) (u.2.2.2.2.2.2.2.2.2.2.2)) := by
  refine zM'.of (cc := cX7_readLines) (maxL := 3) (rt := (some .int)) (by decide) rfl (Nat.le_of_ble_eq_true rfl) ?_
  intro p e s m args below meth c A ls St hr hlocks hin hK hT hA hP hD hS hl
  obtain ⟨hx, hb, hml, hown, hts⟩ := id St
  have hl : lv_has ls 3 [(0, .ref tt), (1, .int mo)] := hl
  refine lv_aload_n hx hb dX7_readLines_0 rfl (lv_at hl 0 rfl) ?_
  refine va_get (D := g.1) (ci := 8) (v := .ref ta) (C := RX10) (T := TX10) (N := 2) hx hb hts izRX10 hown hK hP 0 rfl rfl 0 (by decide) (hts _ k206) (fun _ h9 => h9) rfl dX7_readLines_1 ?_
  refine va_get (D := g.1) (ci := 6) (v := .int kd) (C := RX6) (T := TX6) (N := 7) hx hb hts izRX6 hown hK hP 1 rfl rfl 3 (by decide) (hts _ k487) (fun _ h9 => h9) rfl dX7_readLines_4 ?_
  refine lv_if_ne (tgt := 12) hx hb dX7_readLines_7 (by decide) (fun cb9 => ?_) (fun cb9 => ?_)
  · skip
    have c1 : ¬ kd.toInt = 0 := zne cb9 rfl (by decide)
    refine lv_iconst (v := 1) hx hb dX7_readLines_12 (by decide) ?_
    refine lv_istore_n (lv' := [(2, .int 1), (0, .ref tt), (1, .int mo)]) hx hb dX7_readLines_13 rfl hl (by decide) rfl (fun ls hl => ?_)
    have hl := lv_sub (l' := [(0, .ref tt), (1, .int mo), (2, .int 1)]) hl [1, 2, 0] rfl
    have LP14_21 : ∀ (kf : Nat) (x_2 : Int32) (x_3 : Int32) (x_4 : Int32) (x_5 : Int32) (x_6 : Int32) (x_7 : Int32) (x_8 : Int32) (x_9 : Int32) (x_10 : Int32) (x_11 : Int32) (x_12 : Int32) (f_13 : Nat → Nat → Int32), (1 ≤ x_2.toInt ∧ x_2.toInt ≤ 21) → (0 ≤ x_4.toInt ∧ x_4.toInt ≤ 400) → (0 ≤ x_5.toInt ∧ x_5.toInt ≤ 400) → ((-1) ≤ x_6.toInt) → (0 ≤ x_7.toInt ∧ x_7.toInt ≤ 8) → (0 ≤ x_8.toInt ∧ x_8.toInt ≤ 6) → (zZ4 f_13) → (zKd x_3.toInt x_4.toInt x_5.toInt) → ∀ (H : Heap) (locs : List Loc) (ls : Array Slot), ((22 - x_2.toInt).toNat) < kf → va_P g.1 vwCl (List.flatten [bTT g tt ta o, bTape g ta ab sz ln x_3 x_4 x_5 x_6 fb, bTown g o a x_7 x_8 tx x_9 x_10 x_11 x_12 sd f_13]) H → va_D A (List.flatten [bTT g tt ta o, bTape g ta ab sz ln x_3 x_4 x_5 x_6 fb, bTown g o a x_7 x_8 tx x_9 x_10 x_11 x_12 sd f_13]) → va_S A s.heap H locs → lv_has ls 3 [(0, .ref tt), (1, .int mo), (2, .int x_2)] → W p l e ({ frames := 9, cells := 0, slots := 0, locals := 193 } : Room) s m args below meth c H locs (0) (0) (zF g (fun u : Int32 × Int32 × Int32 × Int32 × Int32 × Int32 × Int32 × Int32 × Int32 × Int32 × (Nat → Nat → Int32) × Int32 => (fun (kd2 : Int32) (bg2 : Int32) (nx2 : Int32) (ft2 : Int32) (pe2 : Int32) (wo2 : Int32) (ch2 : Int32) (jo2 : Int32) (tr2 : Int32) (dy2 : Int32) (f2 : Nat → Nat → Int32) (q : Int32) => some (.int q)) (u.1) (u.2.1) (u.2.2.1) (u.2.2.2.1) (u.2.2.2.2.1) (u.2.2.2.2.2.1) (u.2.2.2.2.2.2.1) (u.2.2.2.2.2.2.2.1) (u.2.2.2.2.2.2.2.2.1) (u.2.2.2.2.2.2.2.2.2.1) (u.2.2.2.2.2.2.2.2.2.2.1) (u.2.2.2.2.2.2.2.2.2.2.2)) (fun u : Int32 × Int32 × Int32 × Int32 × Int32 × Int32 × Int32 × Int32 × Int32 × Int32 × (Nat → Nat → Int32) × Int32 => (fun (kd2 : Int32) (bg2 : Int32) (nx2 : Int32) (ft2 : Int32) (pe2 : Int32) (wo2 : Int32) (ch2 : Int32) (jo2 : Int32) (tr2 : Int32) (dy2 : Int32) (f2 : Nat → Nat → Int32) (q : Int32) => (0 ≤ pe2.toInt ∧ pe2.toInt ≤ 8) ∧ (0 ≤ wo2.toInt ∧ wo2.toInt ≤ 6) ∧ (zZ4 f2) ∧ (-1 ≤ ft2.toInt) ∧ (0 ≤ nx2.toInt ∧ nx2.toInt ≤ 400) ∧ (0 ≤ bg2.toInt ∧ bg2.toInt ≤ 400) ∧ (zKd kd2.toInt bg2.toInt nx2.toInt)) (u.1) (u.2.1) (u.2.2.1) (u.2.2.2.1) (u.2.2.2.2.1) (u.2.2.2.2.2.1) (u.2.2.2.2.2.2.1) (u.2.2.2.2.2.2.2.1) (u.2.2.2.2.2.2.2.2.1) (u.2.2.2.2.2.2.2.2.2.1) (u.2.2.2.2.2.2.2.2.2.2.1) (u.2.2.2.2.2.2.2.2.2.2.2)) (fun u : Int32 × Int32 × Int32 × Int32 × Int32 × Int32 × Int32 × Int32 × Int32 × Int32 × (Nat → Nat → Int32) × Int32 => (fun (kd2 : Int32) (bg2 : Int32) (nx2 : Int32) (ft2 : Int32) (pe2 : Int32) (wo2 : Int32) (ch2 : Int32) (jo2 : Int32) (tr2 : Int32) (dy2 : Int32) (f2 : Nat → Nat → Int32) (q : Int32) => [bTT g tt ta o, bTape g ta ab sz ln kd2 bg2 nx2 ft2 fb, bTown g o a pe2 wo2 tx ch2 jo2 tr2 dy2 sd f2]) (u.1) (u.2.1) (u.2.2.1) (u.2.2.2.1) (u.2.2.2.2.1) (u.2.2.2.2.2.1) (u.2.2.2.2.2.2.1) (u.2.2.2.2.2.2.2.1) (u.2.2.2.2.2.2.2.2.1) (u.2.2.2.2.2.2.2.2.2.1) (u.2.2.2.2.2.2.2.2.2.2.1) (u.2.2.2.2.2.2.2.2.2.2.2)) ({ frames := 9, cells := 0, slots := 0, locals := 193 } : Room) below args s A) (F0 m 14 ls []) := by
      intro kf
      induction kf with
      | zero => intro x_2 x_3 x_4 x_5 x_6 x_7 x_8 x_9 x_10 x_11 x_12 f_13 i14 i15 i16 i17 i18 i19 rf_13 i20 H locs ls hk; exact absurd hk (Nat.not_lt_zero _)
      | succ kf ih14_22 =>
        intro x_2 x_3 x_4 x_5 x_6 x_7 x_8 x_9 x_10 x_11 x_12 f_13 i14 i15 i16 i17 i18 i19 rf_13 i20 H locs ls hk14_22 hP hD hS hl
        refine lv_iload_n hx hb dX7_readLines_14 rfl (lv_at hl 2 rfl) ?_
        refine lv_iload_n hx hb dX7_readLines_15 rfl (lv_at hl 1 rfl) ?_
        refine lv_icmp_gt (tgt := 60) hx hb dX7_readLines_16 (by decide) (fun cb9 => ?_) (fun cb9 => ?_)
        · skip
          have c23 : mo.toInt < x_2.toInt := zlti cb9 rfl rfl
          refine lv_aload_n hx hb dX7_readLines_60 rfl (lv_at hl 0 rfl) ?_
          refine va_get (D := g.1) (ci := 8) (v := .ref ta) (C := RX10) (T := TX10) (N := 2) hx hb hts izRX10 hown hK hP 0 rfl rfl 0 (by decide) (hts _ k206) (fun _ h9 => h9) rfl dX7_readLines_61 ?_
          refine mcallV' (g := g) (q0 := 0) (ci := 6) (As := []) (rest := []) St hK hT hA hP hD hS hl.1 [1] [0, 2] rfl rfl rfl (c_t_refuse l g ta ab sz ln x_3 x_4 x_5 x_6 fb hln i16 i15 i20 i17) (cwV 0 hts (zgL (zl4 k497 k279 k280 k277) k269) rfl rfl rfl (by decide +kernel) ⟨Nat.le_of_ble_eq_true rfl, Nat.le_of_ble_eq_true rfl⟩) rfl rfl rfl rfl (Nat.le_of_ble_eq_true rfl) dX7_readLines_64 ⟨(Nat.le_of_ble_eq_true rfl), (Nat.le_of_ble_eq_true rfl)⟩ (fun ft2_24 H locs hq25 hP hD hS => ?_)
          replace hq25 : (-1 ≤ ft2_24.toInt) := hq25
          have hP : va_P g.1 vwCl (List.flatten [bTT g tt ta o, bTown g o a x_7 x_8 tx x_9 x_10 x_11 x_12 sd f_13, bTape g ta ab sz ln x_3 x_4 x_5 ft2_24 fb]) H := hP
          have hD : va_D A (List.flatten [bTT g tt ta o, bTown g o a x_7 x_8 tx x_9 x_10 x_11 x_12 sd f_13, bTape g ta ab sz ln x_3 x_4 x_5 ft2_24 fb]) := hD
          refine W.widen (k := 0) (n := 0) (Nat.le_of_ble_eq_true rfl) (Nat.le_of_ble_eq_true rfl) ?_
          refine W.eq (g2 := F0 m 67 ls [.int 0]) rfl ?_
          refine lv_pop hx hb dX7_readLines_67 rfl ?_
          refine lv_iconst (v := (-1)) hx hb dX7_readLines_68 (by decide) ?_
          have hP : va_P g.1 vwCl (List.flatten [bTT g tt ta o, bTown g o a x_7 x_8 tx x_9 x_10 x_11 x_12 sd f_13, bTape g ta ab sz ln x_3 x_4 x_5 ft2_24 fb]) H := hP
          have hD : va_D A (List.flatten [bTT g tt ta o, bTown g o a x_7 x_8 tx x_9 x_10 x_11 x_12 sd f_13, bTape g ta ab sz ln x_3 x_4 x_5 ft2_24 fb]) := hD
          obtain ⟨hP, hD⟩ := zord (g := g) (Bs' := [bTT g tt ta o, bTape g ta ab sz ln x_3 x_4 x_5 ft2_24 fb, bTown g o a x_7 x_8 tx x_9 x_10 x_11 x_12 sd f_13]) [0, 2, 1] rfl rfl hP hD
          exact mret_i hx hb hr hlocks hS (Nat.le_of_ble_eq_true rfl) (Nat.le_of_ble_eq_true rfl) dX7_readLines_69 (x_3, x_4, x_5, ft2_24, x_7, x_8, x_9, x_10, x_11, x_12, f_13, -1) rfl (show (0 ≤ x_7.toInt ∧ x_7.toInt ≤ 8) ∧ (0 ≤ x_8.toInt ∧ x_8.toInt ≤ 6) ∧ (zZ4 f_13) ∧ (-1 ≤ ft2_24.toInt) ∧ (0 ≤ x_5.toInt ∧ x_5.toInt ≤ 400) ∧ (0 ≤ x_4.toInt ∧ x_4.toInt ≤ 400) ∧ (zKd x_3.toInt x_4.toInt x_5.toInt) from ⟨i18, i19, rf_13, hq25, i16, i15, i20⟩) hP hD
        · skip
          have c26 : x_2.toInt ≤ mo.toInt := zle (Int32.not_lt.mp cb9) rfl rfl
          have n27 : x_2.toInt ≤ 20 := Int.le_trans c26 b_mo.2
          have n28 : 1 ≤ mo.toInt := Int.le_trans i14.1 c26
          refine lv_aload_n hx hb dX7_readLines_19 rfl (lv_at hl 0 rfl) ?_
          refine mcallU' (g := g) (q0 := 0) (ci := 8) (As := []) (rest := []) St hK hT hA hP hD hS hl.1 [0, 1, 2] [] rfl rfl rfl (c_tt_readLine l g tt ta o ab sz ln x_3 x_4 x_5 x_6 fb a x_7 x_8 tx x_9 x_10 x_11 x_12 sd f_13 i18 i19 rf_13 hln i16 i15 i20 i17) (va_cwA (owner := "DryRiver$Text") (x := ⟨"DryRiver$Text", "readLine", "()Z"⟩) 0 hts (zgL (zl5 k488 k489 k492 k493 k476) k486) rfl rfl rfl hT.2.2 (by decide +kernel) ⟨Nat.le_of_ble_eq_true rfl, Nat.le_of_ble_eq_true rfl⟩) rfl rfl rfl rfl (Nat.le_of_ble_eq_true rfl) dX7_readLines_20 ⟨(Nat.le_of_ble_eq_true rfl), (Nat.le_of_ble_eq_true rfl)⟩ (fun u_ H locs hq41 hP hD hS => ?_)
          obtain ⟨kd2_29, bg2_30, nx2_31, ft2_32, pe2_33, wo2_34, ch2_35, jo2_36, tr2_37, dy2_38, f2_39, q_40⟩ := u_
          replace hq41 : (0 ≤ pe2_33.toInt ∧ pe2_33.toInt ≤ 8) ∧ (0 ≤ wo2_34.toInt ∧ wo2_34.toInt ≤ 6) ∧ (zZ4 f2_39) ∧ (-1 ≤ ft2_32.toInt) ∧ (0 ≤ nx2_31.toInt ∧ nx2_31.toInt ≤ 400) ∧ (0 ≤ bg2_30.toInt ∧ bg2_30.toInt ≤ 400) ∧ (zKd kd2_29.toInt bg2_30.toInt nx2_31.toInt) ∧ (q_40 = 0 ∨ q_40 = 1) := hq41
          have hP : va_P g.1 vwCl (List.flatten [bTT g tt ta o, bTape g ta ab sz ln kd2_29 bg2_30 nx2_31 ft2_32 fb, bTown g o a pe2_33 wo2_34 tx ch2_35 jo2_36 tr2_37 dy2_38 sd f2_39]) H := hP
          have hD : va_D A (List.flatten [bTT g tt ta o, bTape g ta ab sz ln kd2_29 bg2_30 nx2_31 ft2_32 fb, bTown g o a pe2_33 wo2_34 tx ch2_35 jo2_36 tr2_37 dy2_38 sd f2_39]) := hD
          refine W.widen (k := 0) (n := 0) (Nat.le_of_ble_eq_true rfl) (Nat.le_of_ble_eq_true rfl) ?_
          refine W.eq (g2 := F0 m 23 ls [.int q_40]) rfl ?_
          obtain ⟨hq41_0, hq41_1, rf2_39, hq41_3, hq41_4, hq41_5, hq41_6, hq41_7⟩ := hq41
          rcases hq41_7 with rfl | rfl
          · skip
            refine lv_if_ne (tgt := 28) hx hb dX7_readLines_23 (by decide) (fun c42 => absurd (by decide) c42) (fun _ => ?_)
            refine lv_iconst (v := (-1)) hx hb dX7_readLines_26 (by decide) ?_
            have hP : va_P g.1 vwCl (List.flatten [bTT g tt ta o, bTape g ta ab sz ln kd2_29 bg2_30 nx2_31 ft2_32 fb, bTown g o a pe2_33 wo2_34 tx ch2_35 jo2_36 tr2_37 dy2_38 sd f2_39]) H := hP
            have hD : va_D A (List.flatten [bTT g tt ta o, bTape g ta ab sz ln kd2_29 bg2_30 nx2_31 ft2_32 fb, bTown g o a pe2_33 wo2_34 tx ch2_35 jo2_36 tr2_37 dy2_38 sd f2_39]) := hD
            exact mret_i hx hb hr hlocks hS (Nat.le_of_ble_eq_true rfl) (Nat.le_of_ble_eq_true rfl) dX7_readLines_27 (kd2_29, bg2_30, nx2_31, ft2_32, pe2_33, wo2_34, ch2_35, jo2_36, tr2_37, dy2_38, f2_39, -1) rfl (show (0 ≤ pe2_33.toInt ∧ pe2_33.toInt ≤ 8) ∧ (0 ≤ wo2_34.toInt ∧ wo2_34.toInt ≤ 6) ∧ (zZ4 f2_39) ∧ (-1 ≤ ft2_32.toInt) ∧ (0 ≤ nx2_31.toInt ∧ nx2_31.toInt ≤ 400) ∧ (0 ≤ bg2_30.toInt ∧ bg2_30.toInt ≤ 400) ∧ (zKd kd2_29.toInt bg2_30.toInt nx2_31.toInt) from ⟨hq41_0, hq41_1, rf2_39, hq41_3, hq41_4, hq41_5, hq41_6⟩) hP hD
          · skip
            refine lv_if_ne (tgt := 28) hx hb dX7_readLines_23 (by decide) (fun _ => ?_) (fun c43 => absurd c43 (by decide))
            refine lv_aload_n hx hb dX7_readLines_28 rfl (lv_at hl 0 rfl) ?_
            refine va_get (D := g.1) (ci := 8) (v := .ref ta) (C := RX10) (T := TX10) (N := 2) hx hb hts izRX10 hown hK hP 0 rfl rfl 0 (by decide) (hts _ k206) (fun _ h9 => h9) rfl dX7_readLines_29 ?_
            refine va_get (D := g.1) (ci := 6) (v := .int kd2_29) (C := RX6) (T := TX6) (N := 7) hx hb hts izRX6 hown hK hP 1 rfl rfl 3 (by decide) (hts _ k487) (fun _ h9 => h9) rfl dX7_readLines_32 ?_
            refine lv_if_ne (tgt := 40) hx hb dX7_readLines_35 (by decide) (fun cb9 => ?_) (fun cb9 => ?_)
            · skip
              have c44 : ¬ kd2_29.toInt = 0 := zne cb9 rfl (by decide)
              refine lv_aload_n hx hb dX7_readLines_40 rfl (lv_at hl 0 rfl) ?_
              refine va_get (D := g.1) (ci := 8) (v := .ref ta) (C := RX10) (T := TX10) (N := 2) hx hb hts izRX10 hown hK hP 0 rfl rfl 0 (by decide) (hts _ k206) (fun _ h9 => h9) rfl dX7_readLines_41 ?_
              refine lv_bipush (v := 59) hx hb dX7_readLines_44 (by decide) ?_
              refine mcallV' (g := g) (q0 := 0) (ci := 6) (As := [.int 59]) (rest := []) St hK hT hA hP hD hS hl.1 [1] [0, 2] rfl rfl rfl (c_t_needSign l g ta ab sz ln kd2_29 bg2_30 nx2_31 ft2_32 fb 59 hln hq41_4 hq41_5 hq41_6 hq41_3) (cwV 1 hts (zgL (zl4 k494 k495 k496 k277) k432) rfl rfl rfl (by decide +kernel) ⟨Nat.le_of_ble_eq_true rfl, Nat.le_of_ble_eq_true rfl⟩) rfl rfl rfl rfl (Nat.le_of_ble_eq_true rfl) dX7_readLines_46 ⟨(Nat.le_of_ble_eq_true rfl), (Nat.le_of_ble_eq_true rfl)⟩ (fun u_ H locs hq50 hP hD hS => ?_)
              obtain ⟨kd2_45, bg2_46, nx2_47, ft2_48, q_49⟩ := u_
              replace hq50 : (0 ≤ nx2_47.toInt ∧ nx2_47.toInt ≤ 400) ∧ (0 ≤ bg2_46.toInt ∧ bg2_46.toInt ≤ 400) ∧ (zKd kd2_45.toInt bg2_46.toInt nx2_47.toInt) ∧ (-1 ≤ ft2_48.toInt) ∧ (q_49 = 0 ∨ q_49 = 1) := hq50
              have hP : va_P g.1 vwCl (List.flatten [bTT g tt ta o, bTown g o a pe2_33 wo2_34 tx ch2_35 jo2_36 tr2_37 dy2_38 sd f2_39, bTape g ta ab sz ln kd2_45 bg2_46 nx2_47 ft2_48 fb]) H := hP
              have hD : va_D A (List.flatten [bTT g tt ta o, bTown g o a pe2_33 wo2_34 tx ch2_35 jo2_36 tr2_37 dy2_38 sd f2_39, bTape g ta ab sz ln kd2_45 bg2_46 nx2_47 ft2_48 fb]) := hD
              refine W.widen (k := 0) (n := 0) (Nat.le_of_ble_eq_true rfl) (Nat.le_of_ble_eq_true rfl) ?_
              refine W.eq (g2 := F0 m 49 ls [.int q_49]) rfl ?_
              obtain ⟨hq50_0, hq50_1, hq50_2, hq50_3, hq50_4⟩ := hq50
              rcases hq50_4 with rfl | rfl
              · skip
                refine lv_if_ne (tgt := 54) hx hb dX7_readLines_49 (by decide) (fun c51 => absurd (by decide) c51) (fun _ => ?_)
                refine lv_iconst (v := (-1)) hx hb dX7_readLines_52 (by decide) ?_
                have hP : va_P g.1 vwCl (List.flatten [bTT g tt ta o, bTown g o a pe2_33 wo2_34 tx ch2_35 jo2_36 tr2_37 dy2_38 sd f2_39, bTape g ta ab sz ln kd2_45 bg2_46 nx2_47 ft2_48 fb]) H := hP
                have hD : va_D A (List.flatten [bTT g tt ta o, bTown g o a pe2_33 wo2_34 tx ch2_35 jo2_36 tr2_37 dy2_38 sd f2_39, bTape g ta ab sz ln kd2_45 bg2_46 nx2_47 ft2_48 fb]) := hD
                obtain ⟨hP, hD⟩ := zord (g := g) (Bs' := [bTT g tt ta o, bTape g ta ab sz ln kd2_45 bg2_46 nx2_47 ft2_48 fb, bTown g o a pe2_33 wo2_34 tx ch2_35 jo2_36 tr2_37 dy2_38 sd f2_39]) [0, 2, 1] rfl rfl hP hD
                exact mret_i hx hb hr hlocks hS (Nat.le_of_ble_eq_true rfl) (Nat.le_of_ble_eq_true rfl) dX7_readLines_53 (kd2_45, bg2_46, nx2_47, ft2_48, pe2_33, wo2_34, ch2_35, jo2_36, tr2_37, dy2_38, f2_39, -1) rfl (show (0 ≤ pe2_33.toInt ∧ pe2_33.toInt ≤ 8) ∧ (0 ≤ wo2_34.toInt ∧ wo2_34.toInt ≤ 6) ∧ (zZ4 f2_39) ∧ (-1 ≤ ft2_48.toInt) ∧ (0 ≤ nx2_47.toInt ∧ nx2_47.toInt ≤ 400) ∧ (0 ≤ bg2_46.toInt ∧ bg2_46.toInt ≤ 400) ∧ (zKd kd2_45.toInt bg2_46.toInt nx2_47.toInt) from ⟨hq41_0, hq41_1, rf2_39, hq50_3, hq50_0, hq50_1, hq50_2⟩) hP hD
              · skip
                refine lv_if_ne (tgt := 54) hx hb dX7_readLines_49 (by decide) (fun _ => ?_) (fun c52 => absurd c52 (by decide))
                refine ziinc3 (n' := 1) (a' := 2) (b' := 21) (lv' := fun v9 => [(2, .int v9), (0, .ref tt), (1, .int mo)]) hx hb dX7_readLines_54 hl (k := 2) rfl (by decide) (fun _ => rfl) (zaddK (i := x_2.toInt) (j := 1) rfl (by decide) i14.1 n27 (Int.le_refl _) (Int.le_refl _) (by decide)) (fun x_53 ls hx_53 hl => ?_)
                refine lv_goto (tgt := 14) hx hb dX7_readLines_57 (by decide) ?_
                have hl := lv_sub (l' := [(0, .ref tt), (1, .int mo), (2, .int x_53)]) hl [1, 2, 0] rfl
                have hP : va_P g.1 vwCl (List.flatten [bTT g tt ta o, bTown g o a pe2_33 wo2_34 tx ch2_35 jo2_36 tr2_37 dy2_38 sd f2_39, bTape g ta ab sz ln kd2_45 bg2_46 nx2_47 ft2_48 fb]) H := hP
                have hD : va_D A (List.flatten [bTT g tt ta o, bTown g o a pe2_33 wo2_34 tx ch2_35 jo2_36 tr2_37 dy2_38 sd f2_39, bTape g ta ab sz ln kd2_45 bg2_46 nx2_47 ft2_48 fb]) := hD
                obtain ⟨hP, hD⟩ := zord (g := g) (Bs' := [bTT g tt ta o, bTape g ta ab sz ln kd2_45 bg2_46 nx2_47 ft2_48 fb, bTown g o a pe2_33 wo2_34 tx ch2_35 jo2_36 tr2_37 dy2_38 sd f2_39]) [0, 2, 1] rfl rfl hP hD
                have hP : va_P g.1 vwCl (List.flatten [bTT g tt ta o, bTape g ta ab sz ln kd2_45 bg2_46 nx2_47 ft2_48 fb, bTown g o a pe2_33 wo2_34 tx ch2_35 jo2_36 tr2_37 dy2_38 sd f2_39]) H := hP
                have hD : va_D A (List.flatten [bTT g tt ta o, bTape g ta ab sz ln kd2_45 bg2_46 nx2_47 ft2_48 fb, bTown g o a pe2_33 wo2_34 tx ch2_35 jo2_36 tr2_37 dy2_38 sd f2_39]) := hD
                exact ih14_22 x_53 kd2_45 bg2_46 nx2_47 ft2_48 pe2_33 wo2_34 ch2_35 jo2_36 tr2_37 dy2_38 f2_39 ⟨(Int.le_trans (by decide) hx_53.2.1), hx_53.2.2⟩ ⟨hq50_1.1, hq50_1.2⟩ ⟨hq50_0.1, hq50_0.2⟩ (by first | omega | assumption | decide) ⟨hq41_0.1, hq41_0.2⟩ ⟨hq41_1.1, hq41_1.2⟩ rf2_39 hq50_2 H _ ls (zmK hx_53.1 (by decide) n27 (by decide) hk14_22)  hP hD hS (lv_sub hl [0, 1, 2] rfl)
            · skip
              have c54 : kd2_29.toInt = 0 := zeq cb9 rfl (by decide)
              have n55 : 0 ≤ kd2_29.toInt := Int.le_trans (Int.le_refl _) (Int.le_of_eq c54.symm)
              have n56 : kd2_29.toInt ≤ 0 := Int.le_trans (Int.le_of_eq c54) (Int.le_refl _)
              refine lv_iload_n hx hb dX7_readLines_38 rfl (lv_at hl 2 rfl) ?_
              have hP : va_P g.1 vwCl (List.flatten [bTT g tt ta o, bTape g ta ab sz ln kd2_29 bg2_30 nx2_31 ft2_32 fb, bTown g o a pe2_33 wo2_34 tx ch2_35 jo2_36 tr2_37 dy2_38 sd f2_39]) H := hP
              have hD : va_D A (List.flatten [bTT g tt ta o, bTape g ta ab sz ln kd2_29 bg2_30 nx2_31 ft2_32 fb, bTown g o a pe2_33 wo2_34 tx ch2_35 jo2_36 tr2_37 dy2_38 sd f2_39]) := hD
              exact mret_i hx hb hr hlocks hS (Nat.le_of_ble_eq_true rfl) (Nat.le_of_ble_eq_true rfl) dX7_readLines_39 (kd2_29, bg2_30, nx2_31, ft2_32, pe2_33, wo2_34, ch2_35, jo2_36, tr2_37, dy2_38, f2_39, x_2) rfl (show (0 ≤ pe2_33.toInt ∧ pe2_33.toInt ≤ 8) ∧ (0 ≤ wo2_34.toInt ∧ wo2_34.toInt ≤ 6) ∧ (zZ4 f2_39) ∧ (-1 ≤ ft2_32.toInt) ∧ (0 ≤ nx2_31.toInt ∧ nx2_31.toInt ≤ 400) ∧ (0 ≤ bg2_30.toInt ∧ bg2_30.toInt ≤ 400) ∧ (zKd kd2_29.toInt bg2_30.toInt nx2_31.toInt) from ⟨hq41_0, hq41_1, rf2_39, hq41_3, hq41_4, hq41_5, hq41_6⟩) hP hD
    have hL1 : (1 : Int32).toInt = 1 := by decide
    have hP : va_P g.1 vwCl (List.flatten [bTT g tt ta o, bTape g ta ab sz ln kd bg nx ft fb, bTown g o a pe wo tx ch jo tr dy sd f]) s.heap := hP
    have hD : va_D A (List.flatten [bTT g tt ta o, bTape g ta ab sz ln kd bg nx ft fb, bTown g o a pe wo tx ch jo tr dy sd f]) := hD
    exact LP14_21 _ 1 kd bg nx ft pe wo ch jo tr dy f (by decide) ⟨hbg.1, hbg.2⟩ ⟨hnx.1, hnx.2⟩ (by first | omega | assumption | decide) ⟨b_pe.1, b_pe.2⟩ ⟨b_wo.1, b_wo.2⟩ rf hkd s.heap _ ls (Nat.lt_succ_self _)  hP hD hS (lv_sub hl [0, 1, 2] rfl)
  · skip
    have c57 : kd.toInt = 0 := zeq cb9 rfl (by decide)
    have n58 : 0 ≤ kd.toInt := Int.le_trans (Int.le_refl _) (Int.le_of_eq c57.symm)
    have n59 : kd.toInt ≤ 0 := Int.le_trans (Int.le_of_eq c57) (Int.le_refl _)
    refine lv_iconst (v := 0) hx hb dX7_readLines_10 (by decide) ?_
    have hP : va_P g.1 vwCl (List.flatten [bTT g tt ta o, bTape g ta ab sz ln kd bg nx ft fb, bTown g o a pe wo tx ch jo tr dy sd f]) s.heap := hP
    have hD : va_D A (List.flatten [bTT g tt ta o, bTape g ta ab sz ln kd bg nx ft fb, bTown g o a pe wo tx ch jo tr dy sd f]) := hD
    exact mret_i hx hb hr hlocks hS (Nat.le_of_ble_eq_true rfl) (Nat.le_of_ble_eq_true rfl) dX7_readLines_11 (kd, bg, nx, ft, pe, wo, ch, jo, tr, dy, f, (0 : Int32)) rfl (show (0 ≤ pe.toInt ∧ pe.toInt ≤ 8) ∧ (0 ≤ wo.toInt ∧ wo.toInt ≤ 6) ∧ (zZ4 f) ∧ (-1 ≤ ft.toInt) ∧ (0 ≤ nx.toInt ∧ nx.toInt ≤ 400) ∧ (0 ≤ bg.toInt ∧ bg.toInt ≤ 400) ∧ (zKd kd.toInt bg.toInt nx.toInt) from ⟨b_pe, b_wo, rf, hft, hnx, hbg, hkd⟩) hP hD
