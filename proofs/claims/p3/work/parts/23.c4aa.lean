set_option maxRecDepth 100000 in
set_option maxHeartbeats 4000000 in
theorem c_tt_readPerson (l : Launch) (g : zG) (tt : Nat) (ta : Nat) (o : Nat) (ab : Nat) (sz : Int32) (ln : Int32) (kd : Int32) (bg : Int32) (nx : Int32) (ft : Int32) (fb : Nat → Int32) (a : Nat → Nat) (pe : Int32) (wo : Int32) (tx : Int32) (ch : Int32) (jo : Int32) (tr : Int32) (dy : Int32) (sd : Int32) (f : Nat → Nat → Int32) (b_pe : 0 ≤ pe.toInt ∧ pe.toInt ≤ 8) (b_wo : 0 ≤ wo.toInt ∧ wo.toInt ≤ 6) (rf : zZ4 f) (hln : 0 ≤ ln.toInt ∧ ln.toInt ≤ 400) (hnx : 0 ≤ nx.toInt ∧ nx.toInt ≤ 400) (hbg : 0 ≤ bg.toInt ∧ bg.toInt ≤ 400) (hkd : zKd kd.toInt bg.toInt nx.toInt) (hft : -1 ≤ ft.toInt) : zM' g l yX10_readPerson (Cond.code yX10_readPerson cX10_readPerson 3 (some .boolean) :: zB) ({ frames := 7, cells := 0, slots := 0, locals := 149 } : Room) [.ref tt] [bTT g tt ta o, bTape g ta ab sz ln kd bg nx ft fb, bTown g o a pe wo tx ch jo tr dy sd f] (fun u : Int32 × Int32 × Int32 × Int32 × Int32 × (Nat → Nat → Int32) × Int32 => (fun (kd2 : Int32) (bg2 : Int32) (nx2 : Int32) (ft2 : Int32) (pe2 : Int32) (f2 : Nat → Nat → Int32) (q : Int32) => some (.int q)) (u.1) (u.2.1) (u.2.2.1) (u.2.2.2.1) (u.2.2.2.2.1) (u.2.2.2.2.2.1) (u.2.2.2.2.2.2)) (fun u : Int32 × Int32 × Int32 × Int32 × Int32 × (Nat → Nat → Int32) × Int32 => (fun (kd2 : Int32) (bg2 : Int32) (nx2 : Int32) (ft2 : Int32) (pe2 : Int32) (f2 : Nat → Nat → Int32) (q : Int32) => (0 ≤ pe2.toInt ∧ pe2.toInt ≤ 8) ∧ (zZ4 f2) ∧ (-1 ≤ ft2.toInt) ∧ (0 ≤ nx2.toInt ∧ nx2.toInt ≤ 400) ∧ (0 ≤ bg2.toInt ∧ bg2.toInt ≤ 400) ∧ (zKd kd2.toInt bg2.toInt nx2.toInt) ∧ (q = 0 ∨ q = 1)) (u.1) (u.2.1) (u.2.2.1) (u.2.2.2.1) (u.2.2.2.2.1) (u.2.2.2.2.2.1) (u.2.2.2.2.2.2)) (fun u : Int32 × Int32 × Int32 × Int32 × Int32 × (Nat → Nat → Int32) × Int32 => (fun (kd2 : Int32) (bg2 : Int32) (nx2 : Int32) (ft2 : Int32) (pe2 : Int32) (f2 : Nat → Nat → Int32) (q : Int32) => [bTT g tt ta o, bTape g ta ab sz ln kd2 bg2 nx2 ft2 fb, bTown g o a pe2 wo tx ch jo tr dy sd f2]) (u.1) (u.2.1) (u.2.2.1) (u.2.2.2.1) (u.2.2.2.2.1) (u.2.2.2.2.2.1) (u.2.2.2.2.2.2)) := by
  refine zM'.of (cc := cX10_readPerson) (maxL := 3) (rt := (some .boolean)) (by decide) rfl (Nat.le_of_ble_eq_true rfl) ?_
  intro p e s m args below meth c A ls St hr hlocks hin hK hT hA hP hD hS hl
  obtain ⟨hx, hb, hml, hown, hts⟩ := id St
  have hl : lv_has ls 3 [(0, .ref tt)] := hl
  refine lv_aload_n hx hb dX10_readPerson_0 rfl (lv_at hl 0 rfl) ?_
  refine va_get (D := g.1) (ci := 8) (v := .ref o) (C := RX10) (T := TX10) (N := 2) hx hb hts izRX10 hown hK hP 0 rfl rfl 1 (by decide) (hts _ k439) (fun _ h9 => h9) rfl dX10_readPerson_1 ?_
  refine va_get (D := g.1) (ci := 7) (v := .int pe) (C := RX9) (T := TX9) (N := 19) hx hb hts izRX9 hown hK hP 3 rfl rfl 0 (by decide) (hts _ k440) (fun _ h9 => h9) rfl dX10_readPerson_4 ?_
  refine lv_bipush (v := 8) hx hb dX10_readPerson_7 (by decide) ?_
  refine lv_icmp_lt (tgt := 20) hx hb dX10_readPerson_9 (by decide) (fun cb9 => ?_) (fun cb9 => ?_)
  · skip
    have c1 : pe.toInt < 8 := zlti cb9 rfl (by decide)
    have n2 : pe.toInt ≤ 7 := zL1 (b := 8) c1 (Int.le_refl _) (by decide)
    refine lv_aload_n hx hb dX10_readPerson_20 rfl (lv_at hl 0 rfl) ?_
    refine va_get (D := g.1) (ci := 8) (v := .ref ta) (C := RX10) (T := TX10) (N := 2) hx hb hts izRX10 hown hK hP 0 rfl rfl 0 (by decide) (hts _ k441) (fun x9 h9 => u_same (hts _ k442) x9 h9) rfl dX10_readPerson_21 ?_
    refine mcallV' (g := g) (q0 := 0) (ci := 6) (As := []) (rest := []) St hK hT hA hP hD hS hl.1 [1] [0, 2] rfl rfl rfl (c_t_step l g ta ab sz ln kd bg nx ft fb hln hnx) (cwV 0 hts (zgL (zl4 k444 k275 k276 k277) k271) rfl rfl rfl (by decide +kernel) ⟨Nat.le_of_ble_eq_true rfl, Nat.le_of_ble_eq_true rfl⟩) rfl rfl rfl rfl (Nat.le_of_ble_eq_true rfl) dX10_readPerson_24 ⟨(Nat.le_of_ble_eq_true rfl), (Nat.le_of_ble_eq_true rfl)⟩ (fun u_ H locs hq6 hP hD hS => ?_)
    obtain ⟨kd2_3, bg2_4, nx2_5⟩ := u_
    replace hq6 : (0 ≤ nx2_5.toInt ∧ nx2_5.toInt ≤ 400) ∧ (0 ≤ bg2_4.toInt ∧ bg2_4.toInt ≤ 400) ∧ (zKd kd2_3.toInt bg2_4.toInt nx2_5.toInt) := hq6
    have hP : va_P g.1 vwCl (List.flatten [bTT g tt ta o, bTown g o a pe wo tx ch jo tr dy sd f, bTape g ta ab sz ln kd2_3 bg2_4 nx2_5 ft fb]) H := hP
    have hD : va_D A (List.flatten [bTT g tt ta o, bTown g o a pe wo tx ch jo tr dy sd f, bTape g ta ab sz ln kd2_3 bg2_4 nx2_5 ft fb]) := hD
    refine W.widen (k := 0) (n := 0) (Nat.le_of_ble_eq_true rfl) (Nat.le_of_ble_eq_true rfl) ?_
    refine W.eq (g2 := F0 m 27 ls []) rfl ?_
    obtain ⟨hq6_0, hq6_1, hq6_2⟩ := hq6
    refine lv_aload_n hx hb dX10_readPerson_27 rfl (lv_at hl 0 rfl) ?_
    refine va_get (D := g.1) (ci := 8) (v := .ref ta) (C := RX10) (T := TX10) (N := 2) hx hb hts izRX10 hown hK hP 0 rfl rfl 0 (by decide) (hts _ k441) (fun x9 h9 => u_same (hts _ k442) x9 h9) rfl dX10_readPerson_28 ?_
    refine lv_iconst (v := 0) hx hb dX10_readPerson_31 (by decide) ?_
    refine lv_bipush (v := 99) hx hb dX10_readPerson_32 (by decide) ?_
    have hL0 : (0 : Int32).toInt = 0 := by decide
    have hL99 : (99 : Int32).toInt = 99 := by decide
    refine mcallV' (g := g) (q0 := 0) (ci := 6) (As := [.int 0, .int 99]) (rest := []) St hK hT hA hP hD hS hl.1 [2] [0, 1] rfl rfl rfl (c_t_number l g ta ab sz ln kd2_3 bg2_4 nx2_5 ft fb 0 99 hln hq6_0 hq6_1 hq6_2 hft) (cwV 2 hts (zgL (zl4 k445 k294 k295 k277) k273) rfl rfl rfl (by decide +kernel) ⟨Nat.le_of_ble_eq_true rfl, Nat.le_of_ble_eq_true rfl⟩) rfl rfl rfl rfl (Nat.le_of_ble_eq_true rfl) dX10_readPerson_34 ⟨(Nat.le_of_ble_eq_true rfl), (Nat.le_of_ble_eq_true rfl)⟩ (fun u_ H locs hq12 hP hD hS => ?_)
    obtain ⟨kd2_7, bg2_8, nx2_9, ft2_10, q_11⟩ := u_
    replace hq12 : (0 ≤ nx2_9.toInt ∧ nx2_9.toInt ≤ 400) ∧ (0 ≤ bg2_8.toInt ∧ bg2_8.toInt ≤ 400) ∧ (zKd kd2_7.toInt bg2_8.toInt nx2_9.toInt) ∧ (-1 ≤ ft2_10.toInt) ∧ (zImp (¬ q_11.toInt = -1) ((0 : Int32).toInt ≤ q_11.toInt ∧ q_11.toInt ≤ (99 : Int32).toInt)) := hq12
    have hP : va_P g.1 vwCl (List.flatten [bTT g tt ta o, bTown g o a pe wo tx ch jo tr dy sd f, bTape g ta ab sz ln kd2_7 bg2_8 nx2_9 ft2_10 fb]) H := hP
    have hD : va_D A (List.flatten [bTT g tt ta o, bTown g o a pe wo tx ch jo tr dy sd f, bTape g ta ab sz ln kd2_7 bg2_8 nx2_9 ft2_10 fb]) := hD
    refine W.widen (k := 0) (n := 0) (Nat.le_of_ble_eq_true rfl) (Nat.le_of_ble_eq_true rfl) ?_
    refine W.eq (g2 := F0 m 37 ls [.int q_11]) rfl ?_
    obtain ⟨hq12_0, hq12_1, hq12_2, hq12_3, hq12_4⟩ := hq12
    refine lv_istore_n (lv' := [(1, .int q_11), (0, .ref tt)]) hx hb dX10_readPerson_37 rfl hl (by decide) rfl (fun ls hl => ?_)
    refine lv_iload_n hx hb dX10_readPerson_38 rfl (lv_at hl 0 rfl) ?_
    refine lv_iconst (v := (-1)) hx hb dX10_readPerson_39 (by decide) ?_
    refine lv_icmp_eq (tgt := 55) hx hb dX10_readPerson_40 (by decide) (fun cb9 => ?_) (fun cb9 => ?_)
    · skip
      have c13 : q_11.toInt = (-1) := zeq cb9 rfl (by decide)
      have n14 : q_11.toInt ≤ (-1) := Int.le_trans (Int.le_of_eq c13) (Int.le_refl _)
      refine lv_iconst (v := 0) hx hb dX10_readPerson_55 (by decide) ?_
      have hP : va_P g.1 vwCl (List.flatten [bTT g tt ta o, bTown g o a pe wo tx ch jo tr dy sd f, bTape g ta ab sz ln kd2_7 bg2_8 nx2_9 ft2_10 fb]) H := hP
      have hD : va_D A (List.flatten [bTT g tt ta o, bTown g o a pe wo tx ch jo tr dy sd f, bTape g ta ab sz ln kd2_7 bg2_8 nx2_9 ft2_10 fb]) := hD
      obtain ⟨hP, hD⟩ := zord (g := g) (Bs' := [bTT g tt ta o, bTape g ta ab sz ln kd2_7 bg2_8 nx2_9 ft2_10 fb, bTown g o a pe wo tx ch jo tr dy sd f]) [0, 2, 1] rfl rfl hP hD
      exact mret_z hx hb hr hlocks hS (Nat.le_of_ble_eq_true rfl) (Nat.le_of_ble_eq_true rfl) dX10_readPerson_56 (kd2_7, bg2_8, nx2_9, ft2_10, pe, f, (0 : Int32)) rfl (by decide) (show (0 ≤ pe.toInt ∧ pe.toInt ≤ 8) ∧ (zZ4 f) ∧ (-1 ≤ ft2_10.toInt) ∧ (0 ≤ nx2_9.toInt ∧ nx2_9.toInt ≤ 400) ∧ (0 ≤ bg2_8.toInt ∧ bg2_8.toInt ≤ 400) ∧ (zKd kd2_7.toInt bg2_8.toInt nx2_9.toInt) ∧ (0 = 0 ∨ 0 = 1) from ⟨b_pe, rf, hq12_3, hq12_0, hq12_1, hq12_2, (by decide)⟩) hP hD
    · skip
      have c15 : ¬ q_11.toInt = (-1) := zne cb9 rfl (by decide)
      have w16 := hq12_4 c15
      have w17 : 0 ≤ q_11.toInt ∧ q_11.toInt ≤ 99 := by omega
      refine lv_aload_n hx hb dX10_readPerson_43 rfl (lv_at hl 1 rfl) ?_
      refine va_get (D := g.1) (ci := 8) (v := .ref ta) (C := RX10) (T := TX10) (N := 2) hx hb hts izRX10 hown hK hP 0 rfl rfl 0 (by decide) (hts _ k441) (fun x9 h9 => u_same (hts _ k442) x9 h9) rfl dX10_readPerson_44 ?_
      refine va_ldcS (q := g.2 54) hx hb hown (zra22 hT.2.1) dX10_readPerson_47 ?_
      refine mcallV' (g := g) (q0 := 0) (ci := 6) (As := [.ref (g.2 54)]) (rest := []) St hK hT hA hP hD hS hl.1 [2] [0, 1] rfl rfl rfl (c_t_needWord l g ta ab sz ln kd2_7 bg2_8 nx2_9 ft2_10 fb (g.2 54) 22 zqa22 hln hq12_0 hq12_1 hq12_2 hq12_3 rfl zla22 zna22) (cwV 1 hts (zgL (zl4 k446 k447 k448 k277) k431) rfl rfl rfl (by decide +kernel) ⟨Nat.le_of_ble_eq_true rfl, Nat.le_of_ble_eq_true rfl⟩) rfl rfl rfl rfl (Nat.le_of_ble_eq_true rfl) dX10_readPerson_49 ⟨(Nat.le_of_ble_eq_true rfl), (Nat.le_of_ble_eq_true rfl)⟩ (fun u_ H locs hq23 hP hD hS => ?_)
      obtain ⟨kd2_18, bg2_19, nx2_20, ft2_21, r_22⟩ := u_
      replace hq23 : (0 ≤ nx2_20.toInt ∧ nx2_20.toInt ≤ 400) ∧ (0 ≤ bg2_19.toInt ∧ bg2_19.toInt ≤ 400) ∧ (zKd kd2_18.toInt bg2_19.toInt nx2_20.toInt) ∧ (-1 ≤ ft2_21.toInt) ∧ (r_22 = 0 ∨ r_22 = 1) := hq23
      have hP : va_P g.1 vwCl (List.flatten [bTT g tt ta o, bTown g o a pe wo tx ch jo tr dy sd f, bTape g ta ab sz ln kd2_18 bg2_19 nx2_20 ft2_21 fb]) H := hP
      have hD : va_D A (List.flatten [bTT g tt ta o, bTown g o a pe wo tx ch jo tr dy sd f, bTape g ta ab sz ln kd2_18 bg2_19 nx2_20 ft2_21 fb]) := hD
      refine W.widen (k := 0) (n := 0) (Nat.le_of_ble_eq_true rfl) (Nat.le_of_ble_eq_true rfl) ?_
      refine W.eq (g2 := F0 m 52 ls [.int r_22]) rfl ?_
      obtain ⟨hq23_0, hq23_1, hq23_2, hq23_3, hq23_4⟩ := hq23
      rcases hq23_4 with rfl | rfl
      · skip
        refine lv_if_ne (tgt := 57) hx hb dX10_readPerson_52 (by decide) (fun c24 => absurd (by decide) c24) (fun _ => ?_)
        refine lv_iconst (v := 0) hx hb dX10_readPerson_55 (by decide) ?_
        have hP : va_P g.1 vwCl (List.flatten [bTT g tt ta o, bTown g o a pe wo tx ch jo tr dy sd f, bTape g ta ab sz ln kd2_18 bg2_19 nx2_20 ft2_21 fb]) H := hP
        have hD : va_D A (List.flatten [bTT g tt ta o, bTown g o a pe wo tx ch jo tr dy sd f, bTape g ta ab sz ln kd2_18 bg2_19 nx2_20 ft2_21 fb]) := hD
        obtain ⟨hP, hD⟩ := zord (g := g) (Bs' := [bTT g tt ta o, bTape g ta ab sz ln kd2_18 bg2_19 nx2_20 ft2_21 fb, bTown g o a pe wo tx ch jo tr dy sd f]) [0, 2, 1] rfl rfl hP hD
        exact mret_z hx hb hr hlocks hS (Nat.le_of_ble_eq_true rfl) (Nat.le_of_ble_eq_true rfl) dX10_readPerson_56 (kd2_18, bg2_19, nx2_20, ft2_21, pe, f, (0 : Int32)) rfl (by decide) (show (0 ≤ pe.toInt ∧ pe.toInt ≤ 8) ∧ (zZ4 f) ∧ (-1 ≤ ft2_21.toInt) ∧ (0 ≤ nx2_20.toInt ∧ nx2_20.toInt ≤ 400) ∧ (0 ≤ bg2_19.toInt ∧ bg2_19.toInt ≤ 400) ∧ (zKd kd2_18.toInt bg2_19.toInt nx2_20.toInt) ∧ (0 = 0 ∨ 0 = 1) from ⟨b_pe, rf, hq23_3, hq23_0, hq23_1, hq23_2, (by decide)⟩) hP hD
      · skip
        refine lv_if_ne (tgt := 57) hx hb dX10_readPerson_52 (by decide) (fun _ => ?_) (fun c25 => absurd c25 (by decide))
        refine lv_aload_n hx hb dX10_readPerson_57 rfl (lv_at hl 1 rfl) ?_
        refine va_get (D := g.1) (ci := 8) (v := .ref ta) (C := RX10) (T := TX10) (N := 2) hx hb hts izRX10 hown hK hP 0 rfl rfl 0 (by decide) (hts _ k441) (fun x9 h9 => u_same (hts _ k442) x9 h9) rfl dX10_readPerson_58 ?_
        refine lv_iconst (v := 0) hx hb dX10_readPerson_61 (by decide) ?_
        refine lv_sipush (v := 999) hx hb dX10_readPerson_62 (by decide) ?_
        have hL999 : (999 : Int32).toInt = 999 := by decide
        refine mcallV' (g := g) (q0 := 0) (ci := 6) (As := [.int 0, .int 999]) (rest := []) St hK hT hA hP hD hS hl.1 [2] [0, 1] rfl rfl rfl (c_t_number l g ta ab sz ln kd2_18 bg2_19 nx2_20 ft2_21 fb 0 999 hln hq23_0 hq23_1 hq23_2 hq23_3) (cwV 2 hts (zgL (zl4 k445 k294 k295 k277) k273) rfl rfl rfl (by decide +kernel) ⟨Nat.le_of_ble_eq_true rfl, Nat.le_of_ble_eq_true rfl⟩) rfl rfl rfl rfl (Nat.le_of_ble_eq_true rfl) dX10_readPerson_65 ⟨(Nat.le_of_ble_eq_true rfl), (Nat.le_of_ble_eq_true rfl)⟩ (fun u_ H locs hq31 hP hD hS => ?_)
        obtain ⟨kd2_26, bg2_27, nx2_28, ft2_29, q_30⟩ := u_
        replace hq31 : (0 ≤ nx2_28.toInt ∧ nx2_28.toInt ≤ 400) ∧ (0 ≤ bg2_27.toInt ∧ bg2_27.toInt ≤ 400) ∧ (zKd kd2_26.toInt bg2_27.toInt nx2_28.toInt) ∧ (-1 ≤ ft2_29.toInt) ∧ (zImp (¬ q_30.toInt = -1) ((0 : Int32).toInt ≤ q_30.toInt ∧ q_30.toInt ≤ (999 : Int32).toInt)) := hq31
        have hP : va_P g.1 vwCl (List.flatten [bTT g tt ta o, bTown g o a pe wo tx ch jo tr dy sd f, bTape g ta ab sz ln kd2_26 bg2_27 nx2_28 ft2_29 fb]) H := hP
        have hD : va_D A (List.flatten [bTT g tt ta o, bTown g o a pe wo tx ch jo tr dy sd f, bTape g ta ab sz ln kd2_26 bg2_27 nx2_28 ft2_29 fb]) := hD
        refine W.widen (k := 0) (n := 0) (Nat.le_of_ble_eq_true rfl) (Nat.le_of_ble_eq_true rfl) ?_
        refine W.eq (g2 := F0 m 68 ls [.int q_30]) rfl ?_
        obtain ⟨hq31_0, hq31_1, hq31_2, hq31_3, hq31_4⟩ := hq31
        refine lv_istore_n (lv' := [(2, .int q_30), (1, .int q_11), (0, .ref tt)]) hx hb dX10_readPerson_68 rfl hl (by decide) rfl (fun ls hl => ?_)
        refine lv_iload_n hx hb dX10_readPerson_69 rfl (lv_at hl 0 rfl) ?_
        refine lv_iconst (v := (-1)) hx hb dX10_readPerson_70 (by decide) ?_
        refine lv_icmp_ne (tgt := 76) hx hb dX10_readPerson_71 (by decide) (fun cb9 => ?_) (fun cb9 => ?_)
        · skip
          have c32 : ¬ q_30.toInt = (-1) := zne cb9 rfl (by decide)
          have w33 := hq31_4 c32
          have w34 : 0 ≤ q_30.toInt ∧ q_30.toInt ≤ 999 := by omega
          refine lv_aload_n hx hb dX10_readPerson_76 rfl (lv_at hl 2 rfl) ?_
          refine va_get (D := g.1) (ci := 8) (v := .ref o) (C := RX10) (T := TX10) (N := 2) hx hb hts izRX10 hown hK hP 0 rfl rfl 1 (by decide) (hts _ k439) (fun _ h9 => h9) rfl dX10_readPerson_77 ?_
          refine lv_iload_n hx hb dX10_readPerson_80 rfl (lv_at hl 1 rfl) ?_
          refine lv_iload_n hx hb dX10_readPerson_81 rfl (lv_at hl 0 rfl) ?_
          refine lv_aload_n hx hb dX10_readPerson_82 rfl (lv_at hl 2 rfl) ?_
          refine va_get (D := g.1) (ci := 8) (v := .ref ta) (C := RX10) (T := TX10) (N := 2) hx hb hts izRX10 hown hK hP 0 rfl rfl 0 (by decide) (hts _ k441) (fun x9 h9 => u_same (hts _ k442) x9 h9) rfl dX10_readPerson_83 ?_
          refine va_ldcS (q := g.2 56) hx hb hown (zra23 hT.2.1) dX10_readPerson_86 ?_
          refine mcallV' (g := g) (q0 := 0) (ci := 6) (As := [.ref (g.2 56)]) (rest := [.int q_30, .int q_11, .ref o]) St hK hT hA hP hD hS hl.1 [2] [0, 1] rfl rfl rfl (c_t_takeWord l g ta ab sz ln kd2_26 bg2_27 nx2_28 ft2_29 fb (g.2 56) 23 zqa23 hln hq31_0 hq31_1 hq31_2 hq31_3 rfl zla23 zna23) (cwV 1 hts (zgL (zl4 k449 k311 k312 k277) k284) rfl rfl rfl (by decide +kernel) ⟨Nat.le_of_ble_eq_true rfl, Nat.le_of_ble_eq_true rfl⟩) rfl rfl rfl rfl (Nat.le_of_ble_eq_true rfl) dX10_readPerson_88 ⟨(Nat.le_of_ble_eq_true rfl), (Nat.le_of_ble_eq_true rfl)⟩ (fun u_ H locs hq39 hP hD hS => ?_)
          obtain ⟨kd2_35, bg2_36, nx2_37, r_38⟩ := u_
          replace hq39 : (0 ≤ nx2_37.toInt ∧ nx2_37.toInt ≤ 400) ∧ (0 ≤ bg2_36.toInt ∧ bg2_36.toInt ≤ 400) ∧ (zKd kd2_35.toInt bg2_36.toInt nx2_37.toInt) ∧ (r_38 = 0 ∨ r_38 = 1) := hq39
          have hP : va_P g.1 vwCl (List.flatten [bTT g tt ta o, bTown g o a pe wo tx ch jo tr dy sd f, bTape g ta ab sz ln kd2_35 bg2_36 nx2_37 ft2_29 fb]) H := hP
          have hD : va_D A (List.flatten [bTT g tt ta o, bTown g o a pe wo tx ch jo tr dy sd f, bTape g ta ab sz ln kd2_35 bg2_36 nx2_37 ft2_29 fb]) := hD
          refine W.widen (k := 0) (n := 0) (Nat.le_of_ble_eq_true rfl) (Nat.le_of_ble_eq_true rfl) ?_
          refine W.eq (g2 := F0 m 91 ls [.int r_38, .int q_30, .int q_11, .ref o]) rfl ?_
          obtain ⟨hq39_0, hq39_1, hq39_2, hq39_3⟩ := hq39
          rcases hq39_3 with rfl | rfl
          · skip
            refine mcallV' (g := g) (q0 := 0) (ci := 7) (As := [.int q_11, .int q_30, .int 0]) (rest := []) St hK hT hA hP hD hS hl.1 [1] [0, 2] rfl rfl rfl (c_addPerson l g o a pe wo tx ch jo tr dy sd f q_11 q_30 0 b_pe b_wo rf (by first | assumption | omega | decide | exact Or.inl (by decide) | exact Or.inr (by decide))) (cwV 3 hts (zgL (zl4 k450 k451 k452 k24) k435) rfl rfl rfl (by decide +kernel) ⟨Nat.le_of_ble_eq_true rfl, Nat.le_of_ble_eq_true rfl⟩) rfl rfl rfl rfl (Nat.le_of_ble_eq_true rfl) dX10_readPerson_91 ⟨(Nat.le_of_ble_eq_true rfl), (Nat.le_of_ble_eq_true rfl)⟩ (fun u_ H locs hq42 hP hD hS => ?_)
            obtain ⟨pe2_40, f2_41⟩ := u_
            replace hq42 : (0 ≤ pe2_40.toInt ∧ pe2_40.toInt ≤ 8) ∧ (zZ4 f2_41) := hq42
            have hP : va_P g.1 vwCl (List.flatten [bTT g tt ta o, bTape g ta ab sz ln kd2_35 bg2_36 nx2_37 ft2_29 fb, bTown g o a pe2_40 wo tx ch jo tr dy sd f2_41]) H := hP
            have hD : va_D A (List.flatten [bTT g tt ta o, bTape g ta ab sz ln kd2_35 bg2_36 nx2_37 ft2_29 fb, bTown g o a pe2_40 wo tx ch jo tr dy sd f2_41]) := hD
            refine W.widen (k := 0) (n := 0) (Nat.le_of_ble_eq_true rfl) (Nat.le_of_ble_eq_true rfl) ?_
            refine W.eq (g2 := F0 m 94 ls []) rfl ?_
            obtain ⟨hq42_0, rf2_41⟩ := hq42
            refine lv_iconst (v := 1) hx hb dX10_readPerson_94 (by decide) ?_
            have hP : va_P g.1 vwCl (List.flatten [bTT g tt ta o, bTape g ta ab sz ln kd2_35 bg2_36 nx2_37 ft2_29 fb, bTown g o a pe2_40 wo tx ch jo tr dy sd f2_41]) H := hP
            have hD : va_D A (List.flatten [bTT g tt ta o, bTape g ta ab sz ln kd2_35 bg2_36 nx2_37 ft2_29 fb, bTown g o a pe2_40 wo tx ch jo tr dy sd f2_41]) := hD
            exact mret_z hx hb hr hlocks hS (Nat.le_of_ble_eq_true rfl) (Nat.le_of_ble_eq_true rfl) dX10_readPerson_95 (kd2_35, bg2_36, nx2_37, ft2_29, pe2_40, f2_41, (1 : Int32)) rfl (by decide) (show (0 ≤ pe2_40.toInt ∧ pe2_40.toInt ≤ 8) ∧ (zZ4 f2_41) ∧ (-1 ≤ ft2_29.toInt) ∧ (0 ≤ nx2_37.toInt ∧ nx2_37.toInt ≤ 400) ∧ (0 ≤ bg2_36.toInt ∧ bg2_36.toInt ≤ 400) ∧ (zKd kd2_35.toInt bg2_36.toInt nx2_37.toInt) ∧ (1 = 0 ∨ 1 = 1) from ⟨hq42_0, rf2_41, hq31_3, hq39_0, hq39_1, hq39_2, (by decide)⟩) hP hD
          · skip
            refine mcallV' (g := g) (q0 := 0) (ci := 7) (As := [.int q_11, .int q_30, .int 1]) (rest := []) St hK hT hA hP hD hS hl.1 [1] [0, 2] rfl rfl rfl (c_addPerson l g o a pe wo tx ch jo tr dy sd f q_11 q_30 1 b_pe b_wo rf (by first | assumption | omega | decide | exact Or.inl (by decide) | exact Or.inr (by decide))) (cwV 3 hts (zgL (zl4 k450 k451 k452 k24) k435) rfl rfl rfl (by decide +kernel) ⟨Nat.le_of_ble_eq_true rfl, Nat.le_of_ble_eq_true rfl⟩) rfl rfl rfl rfl (Nat.le_of_ble_eq_true rfl) dX10_readPerson_91 ⟨(Nat.le_of_ble_eq_true rfl), (Nat.le_of_ble_eq_true rfl)⟩ (fun u_ H locs hq45 hP hD hS => ?_)
            obtain ⟨pe2_43, f2_44⟩ := u_
            replace hq45 : (0 ≤ pe2_43.toInt ∧ pe2_43.toInt ≤ 8) ∧ (zZ4 f2_44) := hq45
            have hP : va_P g.1 vwCl (List.flatten [bTT g tt ta o, bTape g ta ab sz ln kd2_35 bg2_36 nx2_37 ft2_29 fb, bTown g o a pe2_43 wo tx ch jo tr dy sd f2_44]) H := hP
            have hD : va_D A (List.flatten [bTT g tt ta o, bTape g ta ab sz ln kd2_35 bg2_36 nx2_37 ft2_29 fb, bTown g o a pe2_43 wo tx ch jo tr dy sd f2_44]) := hD
            refine W.widen (k := 0) (n := 0) (Nat.le_of_ble_eq_true rfl) (Nat.le_of_ble_eq_true rfl) ?_
            refine W.eq (g2 := F0 m 94 ls []) rfl ?_
            obtain ⟨hq45_0, rf2_44⟩ := hq45
            refine lv_iconst (v := 1) hx hb dX10_readPerson_94 (by decide) ?_
            have hP : va_P g.1 vwCl (List.flatten [bTT g tt ta o, bTape g ta ab sz ln kd2_35 bg2_36 nx2_37 ft2_29 fb, bTown g o a pe2_43 wo tx ch jo tr dy sd f2_44]) H := hP
            have hD : va_D A (List.flatten [bTT g tt ta o, bTape g ta ab sz ln kd2_35 bg2_36 nx2_37 ft2_29 fb, bTown g o a pe2_43 wo tx ch jo tr dy sd f2_44]) := hD
            exact mret_z hx hb hr hlocks hS (Nat.le_of_ble_eq_true rfl) (Nat.le_of_ble_eq_true rfl) dX10_readPerson_95 (kd2_35, bg2_36, nx2_37, ft2_29, pe2_43, f2_44, (1 : Int32)) rfl (by decide) (show (0 ≤ pe2_43.toInt ∧ pe2_43.toInt ≤ 8) ∧ (zZ4 f2_44) ∧ (-1 ≤ ft2_29.toInt) ∧ (0 ≤ nx2_37.toInt ∧ nx2_37.toInt ≤ 400) ∧ (0 ≤ bg2_36.toInt ∧ bg2_36.toInt ≤ 400) ∧ (zKd kd2_35.toInt bg2_36.toInt nx2_37.toInt) ∧ (1 = 0 ∨ 1 = 1) from ⟨hq45_0, rf2_44, hq31_3, hq39_0, hq39_1, hq39_2, (by decide)⟩) hP hD
        · skip
          have c46 : q_30.toInt = (-1) := zeq cb9 rfl (by decide)
          have n47 : q_30.toInt ≤ (-1) := Int.le_trans (Int.le_of_eq c46) (Int.le_refl _)
          refine lv_iconst (v := 0) hx hb dX10_readPerson_74 (by decide) ?_
          have hP : va_P g.1 vwCl (List.flatten [bTT g tt ta o, bTown g o a pe wo tx ch jo tr dy sd f, bTape g ta ab sz ln kd2_26 bg2_27 nx2_28 ft2_29 fb]) H := hP
          have hD : va_D A (List.flatten [bTT g tt ta o, bTown g o a pe wo tx ch jo tr dy sd f, bTape g ta ab sz ln kd2_26 bg2_27 nx2_28 ft2_29 fb]) := hD
          obtain ⟨hP, hD⟩ := zord (g := g) (Bs' := [bTT g tt ta o, bTape g ta ab sz ln kd2_26 bg2_27 nx2_28 ft2_29 fb, bTown g o a pe wo tx ch jo tr dy sd f]) [0, 2, 1] rfl rfl hP hD
          exact mret_z hx hb hr hlocks hS (Nat.le_of_ble_eq_true rfl) (Nat.le_of_ble_eq_true rfl) dX10_readPerson_75 (kd2_26, bg2_27, nx2_28, ft2_29, pe, f, (0 : Int32)) rfl (by decide) (show (0 ≤ pe.toInt ∧ pe.toInt ≤ 8) ∧ (zZ4 f) ∧ (-1 ≤ ft2_29.toInt) ∧ (0 ≤ nx2_28.toInt ∧ nx2_28.toInt ≤ 400) ∧ (0 ≤ bg2_27.toInt ∧ bg2_27.toInt ≤ 400) ∧ (zKd kd2_26.toInt bg2_27.toInt nx2_28.toInt) ∧ (0 = 0 ∨ 0 = 1) from ⟨b_pe, rf, hq31_3, hq31_0, hq31_1, hq31_2, (by decide)⟩) hP hD
  · skip
    have c48 : 8 ≤ pe.toInt := zle (Int32.not_lt.mp cb9) (by decide) rfl
    have n49 : 8 ≤ pe.toInt := Int.le_trans (Int.le_refl _) c48
    refine lv_aload_n hx hb dX10_readPerson_12 rfl (lv_at hl 0 rfl) ?_
    refine va_get (D := g.1) (ci := 8) (v := .ref ta) (C := RX10) (T := TX10) (N := 2) hx hb hts izRX10 hown hK hP 0 rfl rfl 0 (by decide) (hts _ k441) (fun x9 h9 => u_same (hts _ k442) x9 h9) rfl dX10_readPerson_13 ?_
    refine mcallV' (g := g) (q0 := 0) (ci := 6) (As := []) (rest := []) St hK hT hA hP hD hS hl.1 [1] [0, 2] rfl rfl rfl (c_t_refuse l g ta ab sz ln kd bg nx ft fb hln hnx hbg hkd hft) (cwV 0 hts (zgL (zl4 k443 k279 k280 k277) k269) rfl rfl rfl (by decide +kernel) ⟨Nat.le_of_ble_eq_true rfl, Nat.le_of_ble_eq_true rfl⟩) rfl rfl rfl rfl (Nat.le_of_ble_eq_true rfl) dX10_readPerson_16 ⟨(Nat.le_of_ble_eq_true rfl), (Nat.le_of_ble_eq_true rfl)⟩ (fun ft2_50 H locs hq51 hP hD hS => ?_)
    replace hq51 : (-1 ≤ ft2_50.toInt) := hq51
    have hP : va_P g.1 vwCl (List.flatten [bTT g tt ta o, bTown g o a pe wo tx ch jo tr dy sd f, bTape g ta ab sz ln kd bg nx ft2_50 fb]) H := hP
    have hD : va_D A (List.flatten [bTT g tt ta o, bTown g o a pe wo tx ch jo tr dy sd f, bTape g ta ab sz ln kd bg nx ft2_50 fb]) := hD
    refine W.widen (k := 0) (n := 0) (Nat.le_of_ble_eq_true rfl) (Nat.le_of_ble_eq_true rfl) ?_
    refine W.eq (g2 := F0 m 19 ls [.int 0]) rfl ?_
    have hP : va_P g.1 vwCl (List.flatten [bTT g tt ta o, bTown g o a pe wo tx ch jo tr dy sd f, bTape g ta ab sz ln kd bg nx ft2_50 fb]) H := hP
    have hD : va_D A (List.flatten [bTT g tt ta o, bTown g o a pe wo tx ch jo tr dy sd f, bTape g ta ab sz ln kd bg nx ft2_50 fb]) := hD
    obtain ⟨hP, hD⟩ := zord (g := g) (Bs' := [bTT g tt ta o, bTape g ta ab sz ln kd bg nx ft2_50 fb, bTown g o a pe wo tx ch jo tr dy sd f]) [0, 2, 1] rfl rfl hP hD
    exact mret_z hx hb hr hlocks hS (Nat.le_of_ble_eq_true rfl) (Nat.le_of_ble_eq_true rfl) dX10_readPerson_19 (kd, bg, nx, ft2_50, pe, f, (0 : Int32)) rfl (by decide) (show (0 ≤ pe.toInt ∧ pe.toInt ≤ 8) ∧ (zZ4 f) ∧ (-1 ≤ ft2_50.toInt) ∧ (0 ≤ nx.toInt ∧ nx.toInt ≤ 400) ∧ (0 ≤ bg.toInt ∧ bg.toInt ≤ 400) ∧ (zKd kd.toInt bg.toInt nx.toInt) ∧ (0 = 0 ∨ 0 = 1) from ⟨b_pe, rf, hq51, hnx, hbg, hkd, (by decide)⟩) hP hD
