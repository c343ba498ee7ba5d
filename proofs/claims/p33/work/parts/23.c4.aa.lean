set_option maxRecDepth 100000 in
set_option maxHeartbeats 4000000 in
theorem c_tt_readPerson (l : Launch) (g : zG) (tt : Nat) (ta : Nat) (o : Nat) (ab : Nat) (sz : Int32) (ln : Int32) (kd : Int32) (bg : Int32) (nx : Int32) (ft : Int32) (fb : Nat → Int32) (a : Nat → Nat) (pe : Int32) (wo : Int32) (tx : Int32) (ch : Int32) (jo : Int32) (tr : Int32) (dy : Int32) (sd : Int32) (f : Nat → Nat → Int32) (b_pe : 0 ≤ pe.toInt ∧ pe.toInt ≤ 8) (b_wo : 0 ≤ wo.toInt ∧ wo.toInt ≤ 6) (rf : zZ4 f) (hln : 0 ≤ ln.toInt ∧ ln.toInt ≤ 400) (hnx : 0 ≤ nx.toInt ∧ nx.toInt ≤ 400) (hbg : 0 ≤ bg.toInt ∧ bg.toInt ≤ 400) (hkd : zKd kd.toInt bg.toInt nx.toInt) (hft : -1 ≤ ft.toInt) : zM' g l yX10_readPerson (Cond.code yX10_readPerson cX10_readPerson 3 (some .boolean) :: zB) ({ frames := 7, cells := 0, slots := 0, locals := 149 } : Room) [.ref tt] [bTT g tt ta o, bTape g ta ab sz ln kd bg nx ft fb, bTown g o a pe wo tx ch jo tr dy sd f] (fun u : Int32 × Int32 × Int32 × Int32 × Int32 × (Nat → Nat → Int32) × Int32 => (fun (kd2 : Int32) (bg2 : Int32) (nx2 : Int32) (ft2 : Int32) (pe2 : Int32) (f2 : Nat → Nat → Int32) (q : Int32) => some (.int q)) (u.1) (u.2.1) (u.2.2.1) (u.2.2.2.1) (u.2.2.2.2.1) (u.2.2.2.2.2.1) (u.2.2.2.2.2.2)) (fun u : Int32 × Int32 × Int32 × Int32 × Int32 × (Nat → Nat → Int32) × Int32 => (fun (kd2 : Int32) (bg2 : Int32) (nx2 : Int32) (ft2 : Int32) (pe2 : Int32) (f2 : Nat → Nat → Int32) (q : Int32) => (0 ≤ pe2.toInt ∧ pe2.toInt ≤ 8) ∧ (zZ4 f2) ∧ (-1 ≤ ft2.toInt) ∧ (0 ≤ nx2.toInt ∧ nx2.toInt ≤ 400) ∧ (0 ≤ bg2.toInt ∧ bg2.toInt ≤ 400) ∧ (zKd kd2.toInt bg2.toInt nx2.toInt) ∧ (q = 0 ∨ q = 1)) (u.1) (u.2.1) (u.2.2.1) (u.2.2.2.1) (u.2.2.2.2.1) (u.2.2.2.2.2.1) (u.2.2.2.2.2.2)) (fun u : Int32 × Int32 × Int32 × Int32 × Int32 × (Nat → Nat → Int32) × Int32 => (fun (kd2 : Int32) (bg2 : Int32) (nx2 : Int32) (ft2 : Int32) (pe2 : Int32) (f2 : Nat → Nat → Int32) (q : Int32) => [bTT g tt ta o, bTape g ta ab sz ln kd2 bg2 nx2 ft2 fb, bTown g o a pe2 wo tx ch jo tr dy sd f2]) (u.1) (u.2.1) (u.2.2.1) (u.2.2.2.1) (u.2.2.2.2.1) (u.2.2.2.2.2.1) (u.2.2.2.2.2.2)) := by
  refine zM'.of (cc := cX10_readPerson) (maxL := 3) (rt := (some .boolean)) (by decide) rfl (Nat.le_of_ble_eq_true rfl) ?_
  intro p e s m args below meth c A ls St hr hlocks hin hK hT hA hP hD hS hl
  obtain ⟨hx, hb, hml, hown, hts⟩ := id St
  have hl : lv_has ls 3 [(0, .ref tt)] := hl
  refine lv_aload_n hx hb dX10_readPerson_0 rfl (lv_at hl 0 rfl) ?_
  refine va_get (D := g.1) (ci := 8) (v := .ref o) (C := RX10) (T := TX10) (N := 2) hx hb hts izRX10 hown hK hP 0 rfl rfl 1 (by decide) (hts _ k439) (fun _ h9 => h9) rfl dX10_readPerson_1 ?_
  refine va_get (D := g.1) (ci := 7) (v := .int pe) (C := RX9) (T := TX9) (N := 19) hx hb hts izRX9 hown hK hP 3 rfl rfl 0 (by decide) (hts _ k440) (fun _ h9 => h9) rfl dX10_readPerson_4 ?_
  refine lv_bipush (v := 8) hx hb dX10_readPerson_7 (by decide) ?_
  refine lv_icmp_lt (tgt := 20) hx hb dX10_readPerson_9 (by decide) (fun cb9 => ?_) (fun cb9 => ?_)
  · skip
    have c1 : pe.toInt < 8 := zlti cb9 rfl (by decide)
    have n2 : pe.toInt ≤ 7 := zL1 (b := 8) c1 (Int.le_refl _) (by decide)
    refine lv_aload_n hx hb dX10_readPerson_20 rfl (lv_at hl 0 rfl) ?_
    refine va_get (D := g.1) (ci := 8) (v := .ref ta) (C := RX10) (T := TX10) (N := 2) hx hb hts izRX10 hown hK hP 0 rfl rfl 0 (by decide) (hts _ k441) (fun x9 h9 => u_same (hts _ k442) x9 h9) rfl dX10_readPerson_21 ?_
    refine mcallV' (g := g) (q0 := 0) (ci := 6) (As := []) (rest := []) St hK hT hA hP hD hS hl.1 [1] [0, 2] rfl rfl rfl (c_t_step l g ta ab sz ln kd bg nx ft fb hln hnx) (cwV 0 hts (zgL (zl4 k444 k275 k276 k277) k271) rfl rfl rfl (by decide +kernel) ⟨Nat.le_of_ble_eq_true rfl, Nat.le_of_ble_eq_true rfl⟩) rfl rfl rfl rfl (Nat.le_of_ble_eq_true rfl) dX10_readPerson_24 ⟨(Nat.le_of_ble_eq_true rfl), (Nat.le_of_ble_eq_true rfl)⟩ (fun u_ H locs hq6 hP hD hS => ?_)
    obtain ⟨kd2_3, bg2_4, nx2_5⟩ := u_
    replace hq6 : (0 ≤ nx2_5.toInt ∧ nx2_5.toInt ≤ 400) ∧ (0 ≤ bg2_4.toInt ∧ bg2_4.toInt ≤ 400) ∧ (zKd kd2_3.toInt bg2_4.toInt nx2_5.toInt) := hq6
    have hP : va_P g.1 vwCl (List.flatten [bTT g tt ta o, bTown g o a pe wo tx ch jo tr dy sd f, bTape g ta ab sz ln kd2_3 bg2_4 nx2_5 ft fb]) H := hP
    have hD : va_D A (List.flatten [bTT g tt ta o, bTown g o a pe wo tx ch jo tr dy sd f, bTape g ta ab sz ln kd2_3 bg2_4 nx2_5 ft fb]) := hD
    refine W.widen (k := 0) (n := 0) (Nat.le_of_ble_eq_true rfl) (Nat.le_of_ble_eq_true rfl) ?_
    refine W.eq (g2 := F0 m 27 ls []) rfl ?_
    obtain ⟨hq6_0, hq6_1, hq6_2⟩ := hq6
    refine lv_aload_n hx hb dX10_readPerson_27 rfl (lv_at hl 0 rfl) ?_
    refine va_get (D := g.1) (ci := 8) (v := .ref ta) (C := RX10) (T := TX10) (N := 2) hx hb hts izRX10 hown hK hP 0 rfl rfl 0 (by decide) (hts _ k441) (fun x9 h9 => u_same (hts _ k442) x9 h9) rfl dX10_readPerson_28 ?_
    refine lv_iconst (v := 0) hx hb dX10_readPerson_31 (by decide) ?_
    refine lv_bipush (v := 99) hx hb dX10_readPerson_32 (by decide) ?_
    have hL0 : (0 : Int32).toInt = 0 := by decide
    have hL99 : (99 : Int32).toInt = 99 := by decide
    refine mcallV' (g := g) (q0 := 0) (ci := 6) (As := [.int 0, .int 99]) (rest := []) St hK hT hA hP hD hS hl.1 [2] [0, 1] rfl rfl rfl (c_t_number l g ta ab sz ln kd2_3 bg2_4 nx2_5 ft fb 0 99 hln hq6_0 hq6_1 hq6_2 hft) (cwV 2 hts (zgL (zl4 k445 k294 k295 k277) k273) rfl rfl rfl (by decide +kernel) ⟨Nat.le_of_ble_eq_true rfl, Nat.le_of_ble_eq_true rfl⟩) rfl rfl rfl rfl (Nat.le_of_ble_eq_true rfl) dX10_readPerson_34 ⟨(Nat.le_of_ble_eq_true rfl), (Nat.le_of_ble_eq_true rfl)⟩ (fun u_ H locs hq12 hP hD hS => ?_)
    obtain ⟨kd2_7, bg2_8, nx2_9, ft2_10, q_11⟩ := u_
    replace hq12 : (0 ≤ nx2_9.toInt ∧ nx2_9.toInt ≤ 400) ∧ (0 ≤ bg2_8.toInt ∧ bg2_8.toInt ≤ 400) ∧ (zKd kd2_7.toInt bg2_8.toInt nx2_9.toInt) ∧ (-1 ≤ ft2_10.toInt) ∧ (zImp (¬ q_11.toInt = -1) ((0 : Int32).toInt ≤ q_11.toInt ∧ q_11.toInt ≤ (99 : Int32).toInt)) := hq12
    have hP : va_P g.1 vwCl (List.flatten [bTT g tt ta o, bTown g o a pe wo tx ch jo tr dy sd f, bTape g ta ab sz ln kd2_7 bg2_8 nx2_9 ft2_10 fb]) H := hP
    have hD : va_D A (List.flatten [bTT g tt ta o, bTown g o a pe wo tx ch jo tr dy sd f, bTape g ta ab sz ln kd2_7 bg2_8 nx2_9 ft2_10 fb]) := hD
    refine W.widen (k := 0) (n := 0) (Nat.le_of_ble_eq_true rfl) (Nat.le_of_ble_eq_true rfl) ?_
    refine W.eq (g2 := F0 m 37 ls [.int q_11]) rfl ?_
    obtain ⟨hq12_0, hq12_1, hq12_2, hq12_3, hq12_4⟩ := hq12
    refine lv_istore_n (lv' := [(1, .int q_11), (0, .ref tt)]) hx hb dX10_readPerson_37 rfl hl (by decide) rfl (fun ls hl => ?_)
    refine lv_iload_n hx hb dX10_readPerson_38 rfl (lv_at hl 0 rfl) ?_
    refine lv_iconst (v := (-1)) hx hb dX10_readPerson_39 (by decide) ?_
    refine lv_icmp_eq (tgt := 55) hx hb dX10_readPerson_40 (by decide) (fun cb9 => ?_) (fun cb9 => ?_)
    · skip
      have c13 : q_11.toInt = (-1) := zeq cb9 rfl (by decide)
      have n14 : q_11.toInt ≤ (-1) := Int.le_trans (Int.le_of_eq c13) (Int.le_refl _)
      refine lv_iconst (v := 0) hx hb dX10_readPerson_55 (by decide) ?_
      have hP : va_P g.1 vwCl (List.flatten [bTT g tt ta o, bTown g o a pe wo tx ch jo tr dy sd f, bTape g ta ab sz ln kd2_7 bg2_8 nx2_9 ft2_10 fb]) H := hP
      have hD : va_D A (List.flatten [bTT g tt ta o, bTown g o a pe wo tx ch jo tr dy sd f, bTape g ta ab sz ln kd2_7 bg2_8 nx2_9 ft2_10 fb]) := hD
      obtain ⟨hP, hD⟩ := zord (g := g) (Bs' := [bTT g tt ta o, bTape g ta ab sz ln kd2_7 bg2_8 nx2_9 ft2_10 fb, bTown g o a pe wo tx ch jo tr dy sd f]) [0, 2, 1] rfl rfl hP hD
      exact mret_z hx hb hr hlocks hS (Nat.le_of_ble_eq_true rfl) (Nat.le_of_ble_eq_true rfl) dX10_readPerson_56 (kd2_7, bg2_8, nx2_9, ft2_10, pe, f, (0 : Int32)) rfl (by decide) (show (0 ≤ pe.toInt ∧ pe.toInt ≤ 8) ∧ (zZ4 f) ∧ (-1 ≤ ft2_10.toInt) ∧ (0 ≤ nx2_9.toInt ∧ nx2_9.toInt ≤ 400) ∧ (0 ≤ bg2_8.toInt ∧ bg2_8.toInt ≤ 400) ∧ (zKd kd2_7.toInt bg2_8.toInt nx2_9.toInt) ∧ (0 = 0 ∨ 0 = 1) from ⟨b_pe, rf, hq12_3, hq12_0, hq12_1, hq12_2, (by decide)⟩) hP hD
    · skip
      have c15 : ¬ q_11.toInt = (-1) := zne cb9 rfl (by decide)
      have w16 := hq12_4 c15
      have w17 : 0 ≤ q_11.toInt ∧ q_11.toInt ≤ 99 := by omega
      refine lv_aload_n hx hb dX10_readPerson_43 rfl (lv_at hl 1 rfl) ?_
      refine va_get (D := g.1) (ci := 8) (v := .ref ta) (C := RX10) (T := TX10) (N := 2) hx hb hts izRX10 hown hK hP 0 rfl rfl 0 (by decide) (hts _ k441) (fun x9 h9 => u_same (hts _ k442) x9 h9) rfl dX10_readPerson_44 ?_
      refine va_ldcS (q := g.2 54) hx hb hown (zra22 hT.2.1) dX10_readPerson_47 ?_
      refine mcallV' (g := g) (q0 := 0) (ci := 6) (As := [.ref (g.2 54)]) (rest := []) St hK hT hA hP hD hS hl.1 [2] [0, 1] rfl rfl rfl (c_t_needWord l g ta ab sz ln kd2_7 bg2_8 nx2_9 ft2_10 fb (g.2 54) 22 zqa22 hln hq12_0 hq12_1 hq12_2 hq12_3 rfl zla22 zna22) (cwV 1 hts (zgL (zl4 k446 k447 k448 k277) k431) rfl rfl rfl (by decide +kernel) ⟨Nat.le_of_ble_eq_true rfl, Nat.le_of_ble_eq_true rfl⟩) rfl rfl rfl rfl (Nat.le_of_ble_eq_true rfl) dX10_readPerson_49 ⟨(Nat.le_of_ble_eq_true rfl), (Nat.le_of_ble_eq_true rfl)⟩ (fun u_ H locs hq23 hP hD hS => ?_)
      obtain ⟨kd2_18, bg2_19, nx2_20, ft2_21, r_22⟩ := u_
      replace hq23 : (0 ≤ nx2_20.toInt ∧ nx2_20.toInt ≤ 400) ∧ (0 ≤ bg2_19.toInt ∧ bg2_19.toInt ≤ 400) ∧ (zKd kd2_18.toInt bg2_19.toInt nx2_20.toInt) ∧ (-1 ≤ ft2_21.toInt) ∧ (r_22 = 0 ∨ r_22 = 1) := hq23
      have hP : va_P g.1 vwCl (List.flatten [bTT g tt ta o, bTown g o a pe wo tx ch jo tr dy sd f, bTape g ta ab sz ln kd2_18 bg2_19 nx2_20 ft2_21 fb]) H := hP
      have hD : va_D A (List.flatten [bTT g tt ta o, bTown g o a pe wo tx ch jo tr dy sd f, bTape g ta ab sz ln kd2_18 bg2_19 nx2_20 ft2_21 fb]) := hD
      refine W.widen (k := 0) (n := 0) (Nat.le_of_ble_eq_true rfl) (Nat.le_of_ble_eq_true rfl) ?_
      refine W.eq (g2 := F0 m 52 ls [.int r_22]) rfl ?_
      obtain ⟨hq23_0, hq23_1, hq23_2, hq23_3, hq23_4⟩ := hq23
      rcases hq23_4 with rfl | rfl
      · skip
        refine lv_if_ne (tgt := 57) hx hb dX10_readPerson_52 (by decide) (fun c24 => absurd (by decide) c24) (fun _ => ?_)
        refine lv_iconst (v := 0) hx hb dX10_readPerson_55 (by decide) ?_
        have hP : va_P g.1 vwCl (List.flatten [bTT g tt ta o, bTown g o a pe wo tx ch jo tr dy sd f, bTape g ta ab sz ln kd2_18 bg2_19 nx2_20 ft2_21 fb]) H := hP
        have hD : va_D A (List.flatten [bTT g tt ta o, bTown g o a pe wo tx ch jo tr dy sd f, bTape g ta ab sz ln kd2_18 bg2_19 nx2_20 ft2_21 fb]) := hD
        obtain ⟨hP, hD⟩ := zord (g := g) (Bs' := [bTT g tt ta o, bTape g ta ab sz ln kd2_18 bg2_19 nx2_20 ft2_21 fb, bTown g o a pe wo tx ch jo tr dy sd f]) [0, 2, 1] rfl rfl hP hD
        exact mret_z hx hb hr hlocks hS (Nat.le_of_ble_eq_true rfl) (Nat.le_of_ble_eq_true rfl) dX10_readPerson_56 (kd2_18, bg2_19, nx2_20, ft2_21, pe, f, (0 : Int32)) rfl (by decide) (show (0 ≤ pe.toInt ∧ pe.toInt ≤ 8) ∧ (zZ4 f) ∧ (-1 ≤ ft2_21.toInt) ∧ (0 ≤ nx2_20.toInt ∧ nx2_20.toInt ≤ 400) ∧ (0 ≤ bg2_19.toInt ∧ bg2_19.toInt ≤ 400) ∧ (zKd kd2_18.toInt bg2_19.toInt nx2_20.toInt) ∧ (0 = 0 ∨ 0 = 1) from ⟨b_pe, rf, hq23_3, hq23_0, hq23_1, hq23_2, (by decide)⟩) hP hD
      · skip
        refine lv_if_ne (tgt := 57) hx hb dX10_readPerson_52 (by decide) (fun _ => ?_) (fun c25 => absurd c25 (by decide))
        refine lv_aload_n hx hb dX10_readPerson_57 rfl (lv_at hl 1 rfl) ?_
        refine va_get (D := g.1) (ci := 8) (v := .ref ta) (C := RX10) (T := TX10) (N := 2) hx hb hts izRX10 hown hK hP 0 rfl rfl 0 (by decide) (hts _ k441) (fun x9 h9 => u_same (hts _ k442) x9 h9) rfl dX10_readPerson_58 ?_
        refine lv_iconst (v := 0) hx hb dX10_readPerson_61 (by decide) ?_
        refine lv_sipush (v := 999) hx hb dX10_readPerson_62 (by decide) ?_
        have hL999 : (999 : Int32).toInt = 999 := by decide
        refine mcallV' (g := g) (q0 := 0) (ci := 6) (As := [.int 0, .int 999]) (rest := []) St hK hT hA hP hD hS hl.1 [2] [0, 1] rfl rfl rfl (c_t_number l g ta ab sz ln kd2_18 bg2_19 nx2_20 ft2_21 fb 0 999 hln hq23_0 hq23_1 hq23_2 hq23_3) (cwV 2 hts (zgL (zl4 k445 k294 k295 k277) k273) rfl rfl rfl (by decide +kernel) ⟨Nat.le_of_ble_eq_true rfl, Nat.le_of_ble_eq_true rfl⟩) rfl rfl rfl rfl (Nat.le_of_ble_eq_true rfl) dX10_readPerson_65 ⟨(Nat.le_of_ble_eq_true rfl), (Nat.le_of_ble_eq_true rfl)⟩ (fun u_ H locs hq31 hP hD hS => ?_)
        obtain ⟨kd2_26, bg2_27, nx2_28, ft2_29, q_30⟩ := u_
        replace hq31 : (0 ≤ nx2_28.toInt ∧ nx2_28.toInt ≤ 400) ∧ (0 ≤ bg2_27.toInt ∧ bg2_27.toInt ≤ 400) ∧ (zKd kd2_26.toInt bg2_27.toInt nx2_28.toInt) ∧ (-1 ≤ ft2_29.toInt) ∧ (zImp (¬ q_30.toInt = -1) ((0 : Int32).toInt ≤ q_30.toInt ∧ q_30.toInt ≤ (999 : Int32).toInt)) := hq31
        have hP : va_P g.1 vwCl (List.flatten [bTT g tt ta o, bTown g o a pe wo tx ch jo tr dy sd f, bTape g ta ab sz ln kd2_26 bg2_27 nx2_28 ft2_29 fb]) H := hP
        have hD : va_D A (List.flatten [bTT g tt ta o, bTown g o a pe wo tx ch jo tr dy sd f, bTape g ta ab sz ln kd2_26 bg2_27 nx2_28 ft2_29 fb]) := hD
        refine W.widen (k := 0) (n := 0) (Nat.le_of_ble_eq_true rfl) (Nat.le_of_ble_eq_true rfl) ?_
        refine W.eq (g2 := F0 m 68 ls [.int q_30]) rfl ?_
        obtain ⟨hq31_0, hq31_1, hq31_2, hq31_3, hq31_4⟩ := hq31
        refine lv_istore_n (lv' := [(2, .int q_30), (1, .int q_11), (0, .ref tt)]) hx hb dX10_readPerson_68 rfl hl (by decide) rfl (fun ls hl => ?_)
        refine lv_iload_n hx hb dX10_readPerson_69 rfl (lv_at hl 0 rfl) ?_
        refine lv_iconst (v := (-1)) hx hb dX10_readPerson_70 (by decide) ?_
        refine lv_icmp_ne (tgt := 76) hx hb dX10_readPerson_71 (by decide) (fun cb9 => ?_) (fun cb9 => ?_)
        · skip
          have c32 : ¬ q_30.toInt = (-1) := zne cb9 rfl (by decide)
          have w33 := hq31_4 c32
          have w34 : 0 ≤ q_30.toInt ∧ q_30.toInt ≤ 999 := by omega
          refine lv_aload_n hx hb dX10_readPerson_76 rfl (lv_at hl 2 rfl) ?_
          refine va_get (D := g.1) (ci := 8) (v := .ref o) (C := RX10) (T := TX10) (N := 2) hx hb hts izRX10 hown hK hP 0 rfl rfl 1 (by decide) (hts _ k439) (fun _ h9 => h9) rfl dX10_readPerson_77 ?_
          refine lv_iload_n hx hb dX10_readPerson_80 rfl (lv_at hl 1 rfl) ?_
          refine lv_iload_n hx hb dX10_readPerson_81 rfl (lv_at hl 0 rfl) ?_
          refine lv_aload_n hx hb dX10_readPerson_82 rfl (lv_at hl 2 rfl) ?_
          refine va_get (D := g.1) (ci := 8) (v := .ref ta) (C := RX10) (T := TX10) (N := 2) hx hb hts izRX10 hown hK hP 0 rfl rfl 0 (by decide) (hts _ k441) (fun x9 h9 => u_same (hts _ k442) x9 h9) rfl dX10_readPerson_83 ?_
          refine va_ldcS (q := g.2 56) hx hb hown (zra23 hT.2.1) dX10_readPerson_86 ?_
          refine mcallV' (g := g) (q0 := 0) (ci := 6) (As := [.ref (g.2 56)]) (rest := [.int q_30, .int q_11, .ref o]) St hK hT hA hP hD hS hl.1 [2] [0, 1] rfl rfl rfl (c_t_takeWord l g ta ab sz ln kd2_26 bg2_27 nx2_28 ft2_29 fb (g.2 56) 23 zqa23 hln hq31_0 hq31_1 hq31_2 hq31_3 rfl zla23 zna23) (cwV 1 hts (zgL (zl4 k449 k311 k312 k277) k284) rfl rfl rfl (by decide +kernel) ⟨Nat.le_of_ble_eq_true rfl, Nat.le_of_ble_eq_true rfl⟩) rfl rfl rfl rfl (Nat.le_of_ble_eq_true rfl) dX10_readPerson_88 ⟨(Nat.le_of_ble_eq_true rfl), (Nat.le_of_ble_eq_true rfl)⟩ (fun u_ H locs hq39 hP hD hS => ?_)
          obtain ⟨kd2_35, bg2_36, nx2_37, r_38⟩ := u_
          replace hq39 : (0 ≤ nx2_37.toInt ∧ nx2_37.toInt ≤ 400) ∧ (0 ≤ bg2_36.toInt ∧ bg2_36.toInt ≤ 400) ∧ (zKd kd2_35.toInt bg2_36.toInt nx2_37.toInt) ∧ (r_38 = 0 ∨ r_38 = 1) := hq39
          have hP : va_P g.1 vwCl (List.flatten [bTT g tt ta o, bTown g o a pe wo tx ch jo tr dy sd f, bTape g ta ab sz ln kd2_35 bg2_36 nx2_37 ft2_29 fb]) H := hP
          have hD : va_D A (List.flatten [bTT g tt ta o, bTown g o a pe wo tx ch jo tr dy sd f, bTape g ta ab sz ln kd2_35 bg2_36 nx2_37 ft2_29 fb]) := hD
          refine W.widen (k := 0) (n := 0) (Nat.le_of_ble_eq_true rfl) (Nat.le_of_ble_eq_true rfl) ?_
          refine W.eq (g2 := F0 m 91 ls [.int r_38, .int q_30, .int q_11, .ref o]) rfl ?_
          obtain ⟨hq39_0, hq39_1, hq39_2, hq39_3⟩ := hq39
          rcases hq39_3 with rfl | rfl
          · skip
            refine mcallV' (g := g) (q0 := 0) (ci := 7) (As := [.int q_11, .int q_30, .int 0]) (rest := []) St hK hT hA hP hD hS hl.1 [1] [0, 2] rfl rfl rfl (c_addPerson l g o a pe wo tx ch jo tr dy sd f q_11 q_30 0 b_pe b_wo rf (by first | assumption | omega | decide | exact Or.inl (by decide) | exact Or.inr (by decide))) (cwV 3 hts (zgL (zl4 k450 k451 k452 k24) k435) rfl rfl rfl (by decide +kernel) ⟨Nat.le_of_ble_eq_true rfl, Nat.le_of_ble_eq_true rfl⟩) rfl rfl rfl rfl (Nat.le_of_ble_eq_true rfl) dX10_readPerson_91 ⟨(Nat.le_of_ble_eq_true rfl), (Nat.le_of_ble_eq_true rfl)⟩ (fun u_ H locs hq42 hP hD hS => ?_)
            obtain ⟨pe2_40, f2_41⟩ := u_
            replace hq42 : (0 ≤ pe2_40.toInt ∧ pe2_40.toInt ≤ 8) ∧ (zZ4 f2_41) := hq42
            have hP : va_P g.1 vwCl (List.flatten [bTT g tt ta o, bTape g ta ab sz ln kd2_35 bg2_36 nx2_37 ft2_29 fb, bTown g o a pe2_40 wo tx ch jo tr dy sd f2_41]) H := hP
            have hD : va_D A (List.flatten [bTT g tt ta o, bTape g ta ab sz ln kd2_35 bg2_36 nx2_37 ft2_29 fb, bTown g o a pe2_40 wo tx ch jo tr dy sd f2_41]) := hD
            refine W.widen (k := 0) (n := 0) (Nat.le_of_ble_eq_true rfl) (Nat.le_of_ble_eq_true rfl) ?_
            refine W.eq (g2 := F0 m 94 ls []) rfl ?_
            obtain ⟨hq42_0, rf2_41⟩ := hq42
            refine lv_iconst (v := 1) hx hb dX10_readPerson_94 (by decide) ?_
            have hP : va_P g.1 vwCl (List.flatten [bTT g tt ta o, bTape g ta ab sz ln kd2_35 bg2_36 nx2_37 ft2_29 fb, bTown g o a pe2_40 wo tx ch jo tr dy sd f2_41]) H := hP
            have hD : va_D A (List.flatten [bTT g tt ta o, bTape g ta ab sz ln kd2_35 bg2_36 nx2_37 ft2_29 fb, bTown g o a pe2_40 wo tx ch jo tr dy sd f2_41]) := hD
            exact mret_z hx hb hr hlocks hS (Nat.le_of_ble_eq_true rfl) (Nat.le_of_ble_eq_true rfl) dX10_readPerson_95 (kd2_35, bg2_36, nx2_37, ft2_29, pe2_40, f2_41, (1 : Int32)) rfl (by decide) (show (0 ≤ pe2_40.toInt ∧ pe2_40.toInt ≤ 8) ∧ (zZ4 f2_41) ∧ (-1 ≤ ft2_29.toInt) ∧ (0 ≤ nx2_37.toInt ∧ nx2_37.toInt ≤ 400) ∧ (0 ≤ bg2_36.toInt ∧ bg2_36.toInt ≤ 400) ∧ (zKd kd2_35.toInt bg2_36.toInt nx2_37.toInt) ∧ (1 = 0 ∨ 1 = 1) from ⟨hq42_0, rf2_41, hq31_3, hq39_0, hq39_1, hq39_2, (by decide)⟩) hP hD
          · skip
            refine mcallV' (g := g) (q0 := 0) (ci := 7) (As := [.int q_11, .int q_30, .int 1]) (rest := []) St hK hT hA hP hD hS hl.1 [1] [0, 2] rfl rfl rfl (c_addPerson l g o a pe wo tx ch jo tr dy sd f q_11 q_30 1 b_pe b_wo rf (by first | assumption | omega | decide | exact Or.inl (by decide) | exact Or.inr (by decide))) (cwV 3 hts (zgL (zl4 k450 k451 k452 k24) k435) rfl rfl rfl (by decide +kernel) ⟨Nat.le_of_ble_eq_true rfl, Nat.le_of_ble_eq_true rfl⟩) rfl rfl rfl rfl (Nat.le_of_ble_eq_true rfl) dX10_readPerson_91 ⟨(Nat.le_of_ble_eq_true rfl), (Nat.le_of_ble_eq_true rfl)⟩ (fun u_ H locs hq45 hP hD hS => ?_)
            obtain ⟨pe2_43, f2_44⟩ := u_
            replace hq45 : (0 ≤ pe2_43.toInt ∧ pe2_43.toInt ≤ 8) ∧ (zZ4 f2_44) := hq45
            have hP : va_P g.1 vwCl (List.flatten [bTT g tt ta o, bTape g ta ab sz ln kd2_35 bg2_36 nx2_37 ft2_29 fb, bTown g o a pe2_43 wo tx ch jo tr dy sd f2_44]) H := hP
            have hD : va_D A (List.flatten [bTT g tt ta o, bTape g ta ab sz ln kd2_35 bg2_36 nx2_37 ft2_29 fb, bTown g o a pe2_43 wo tx ch jo tr dy sd f2_44]) := hD
            refine W.widen (k := 0) (n := 0) (Nat.le_of_ble_eq_true rfl) (Nat.le_of_ble_eq_true rfl) ?_
            refine W.eq (g2 := F0 m 94 ls []) rfl ?_
            obtain ⟨hq45_0, rf2_44⟩ := hq45
            refine lv_iconst (v := 1) hx hb dX10_readPerson_94 (by decide) ?_
            have hP : va_P g.1 vwCl (List.flatten [bTT g tt ta o, bTape g ta ab sz ln kd2_35 bg2_36 nx2_37 ft2_29 fb, bTown g o a pe2_43 wo tx ch jo tr dy sd f2_44]) H := hP
            have hD : va_D A (List.flatten [bTT g tt ta o, bTape g ta ab sz ln kd2_35 bg2_36 nx2_37 ft2_29 fb, bTown g o a pe2_43 wo tx ch jo tr dy sd f2_44]) := hD
            exact mret_z hx hb hr hlocks hS (Nat.le_of_ble_eq_true rfl) (Nat.le_of_ble_eq_true rfl) dX10_readPerson_95 (kd2_35, bg2_36, nx2_37, ft2_29, pe2_43, f2_44, (1 : Int32)) rfl (by decide) (show (0 ≤ pe2_43.toInt ∧ pe2_43.toInt ≤ 8) ∧ (zZ4 f2_44) ∧ (-1 ≤ ft2_29.toInt) ∧ (0 ≤ nx2_37.toInt ∧ nx2_37.toInt ≤ 400) ∧ (0 ≤ bg2_36.toInt ∧ bg2_36.toInt ≤ 400) ∧ (zKd kd2_35.toInt bg2_36.toInt nx2_37.toInt) ∧ (1 = 0 ∨ 1 = 1) from ⟨hq45_0, rf2_44, hq31_3, hq39_0, hq39_1, hq39_2, (by decide)⟩) hP hD
        · skip
          have c46 : q_30.toInt = (-1) := zeq cb9 rfl (by decide)
          have n47 : q_30.toInt ≤ (-1) := Int.le_trans (Int.le_of_eq c46) (Int.le_refl _)
          refine lv_iconst (v := 0) hx hb dX10_readPerson_74 (by decide) ?_
          have hP : va_P g.1 vwCl (List.flatten [bTT g tt ta o, bTown g o a pe wo tx ch jo tr dy sd f, bTape g ta ab sz ln kd2_26 bg2_27 nx2_28 ft2_29 fb]) H := hP
          have hD : va_D A (List.flatten [bTT g tt ta o, bTown g o a pe wo tx ch jo tr dy sd f, bTape g ta ab sz ln kd2_26 bg2_27 nx2_28 ft2_29 fb]) := hD
          obtain ⟨hP, hD⟩ := zord (g := g) (Bs' := [bTT g tt ta o, bTape g ta ab sz ln kd2_26 bg2_27 nx2_28 ft2_29 fb, bTown g o a pe wo tx ch jo tr dy sd f]) [0, 2, 1] rfl rfl hP hD
          exact mret_z hx hb hr hlocks hS (Nat.le_of_ble_eq_true rfl) (Nat.le_of_ble_eq_true rfl) dX10_readPerson_75 (kd2_26, bg2_27, nx2_28, ft2_29, pe, f, (0 : Int32)) rfl (by decide) (show (0 ≤ pe.toInt ∧ pe.toInt ≤ 8) ∧ (zZ4 f) ∧ (-1 ≤ ft2_29.toInt) ∧ (0 ≤ nx2_28.toInt ∧ nx2_28.toInt ≤ 400) ∧ (0 ≤ bg2_27.toInt ∧ bg2_27.toInt ≤ 400) ∧ (zKd kd2_26.toInt bg2_27.toInt nx2_28.toInt) ∧ (0 = 0 ∨ 0 = 1) from ⟨b_pe, rf, hq31_3, hq31_0, hq31_1, hq31_2, (by decide)⟩) hP hD
  · skip
    have c48 : 8 ≤ pe.toInt := zle (Int32.not_lt.mp cb9) (by decide) rfl
    have n49 : 8 ≤ pe.toInt := Int.le_trans (Int.le_refl _) c48
    refine lv_aload_n hx hb dX10_readPerson_12 rfl (lv_at hl 0 rfl) ?_
    refine va_get (D := g.1) (ci := 8) (v := .ref ta) (C := RX10) (T := TX10) (N := 2) hx hb hts izRX10 hown hK hP 0 rfl rfl 0 (by decide) (hts _ k441) (fun x9 h9 => u_same (hts _ k442) x9 h9) rfl dX10_readPerson_13 ?_
    refine mcallV' (g := g) (q0 := 0) (ci := 6) (As := []) (rest := []) St hK hT hA hP hD hS hl.1 [1] [0, 2] rfl rfl rfl (c_t_refuse l g ta ab sz ln kd bg nx ft fb hln hnx hbg hkd hft) (cwV 0 hts (zgL (zl4 k443 k279 k280 k277) k269) rfl rfl rfl (by decide +kernel) ⟨Nat.le_of_ble_eq_true rfl, Nat.le_of_ble_eq_true rfl⟩) rfl rfl rfl rfl (Nat.le_of_ble_eq_true rfl) dX10_readPerson_16 ⟨(Nat.le_of_ble_eq_true rfl), (Nat.le_of_ble_eq_true rfl)⟩ (fun ft2_50 H locs hq51 hP hD hS => ?_)
    replace hq51 : (-1 ≤ ft2_50.toInt) := hq51
    have hP : va_P g.1 vwCl (List.flatten [bTT g tt ta o, bTown g o a pe wo tx ch jo tr dy sd f, bTape g ta ab sz ln kd bg nx ft2_50 fb]) H := hP
    have hD : va_D A (List.flatten [bTT g tt ta o, bTown g o a pe wo tx ch jo tr dy sd f, bTape g ta ab sz ln kd bg nx ft2_50 fb]) := hD
    refine W.widen (k := 0) (n := 0) (Nat.le_of_ble_eq_true rfl) (Nat.le_of_ble_eq_true rfl) ?_
    refine W.eq (g2 := F0 m 19 ls [.int 0]) rfl ?_
    have hP : va_P g.1 vwCl (List.flatten [bTT g tt ta o, bTown g o a pe wo tx ch jo tr dy sd f, bTape g ta ab sz ln kd bg nx ft2_50 fb]) H := hP
    have hD : va_D A (List.flatten [bTT g tt ta o, bTown g o a pe wo tx ch jo tr dy sd f, bTape g ta ab sz ln kd bg nx ft2_50 fb]) := hD
    obtain ⟨hP, hD⟩ := zord (g := g) (Bs' := [bTT g tt ta o, bTape g ta ab sz ln kd bg nx ft2_50 fb, bTown g o a pe wo tx ch jo tr dy sd f]) [0, 2, 1] rfl rfl hP hD
    exact mret_z hx hb hr hlocks hS (Nat.le_of_ble_eq_true rfl) (Nat.le_of_ble_eq_true rfl) dX10_readPerson_19 (kd, bg, nx, ft2_50, pe, f, (0 : Int32)) rfl (by decide) (show (0 ≤ pe.toInt ∧ pe.toInt ≤ 8) ∧ (zZ4 f) ∧ (-1 ≤ ft2_50.toInt) ∧ (0 ≤ nx.toInt ∧ nx.toInt ≤ 400) ∧ (0 ≤ bg.toInt ∧ bg.toInt ≤ 400) ∧ (zKd kd.toInt bg.toInt nx.toInt) ∧ (0 = 0 ∨ 0 = 1) from ⟨b_pe, rf, hq51, hnx, hbg, hkd, (by decide)⟩) hP hD
set_option maxRecDepth 100000 in
set_option maxHeartbeats 4000000 in
theorem c_tt_readWork (l : Launch) (g : zG) (tt : Nat) (ta : Nat) (o : Nat) (ab : Nat) (sz : Int32) (ln : Int32) (kd : Int32) (bg : Int32) (nx : Int32) (ft : Int32) (fb : Nat → Int32) (a : Nat → Nat) (pe : Int32) (wo : Int32) (tx : Int32) (ch : Int32) (jo : Int32) (tr : Int32) (dy : Int32) (sd : Int32) (f : Nat → Nat → Int32) (b_pe : 0 ≤ pe.toInt ∧ pe.toInt ≤ 8) (b_wo : 0 ≤ wo.toInt ∧ wo.toInt ≤ 6) (rf : zZ4 f) (hln : 0 ≤ ln.toInt ∧ ln.toInt ≤ 400) (hnx : 0 ≤ nx.toInt ∧ nx.toInt ≤ 400) (hbg : 0 ≤ bg.toInt ∧ bg.toInt ≤ 400) (hkd : zKd kd.toInt bg.toInt nx.toInt) (hft : -1 ≤ ft.toInt) : zM' g l yX10_readWork (Cond.code yX10_readWork cX10_readWork 4 (some .boolean) :: zB) ({ frames := 7, cells := 0, slots := 0, locals := 149 } : Room) [.ref tt] [bTT g tt ta o, bTape g ta ab sz ln kd bg nx ft fb, bTown g o a pe wo tx ch jo tr dy sd f] (fun u : Int32 × Int32 × Int32 × Int32 × Int32 × (Nat → Nat → Int32) × Int32 => (fun (kd2 : Int32) (bg2 : Int32) (nx2 : Int32) (ft2 : Int32) (wo2 : Int32) (f2 : Nat → Nat → Int32) (q : Int32) => some (.int q)) (u.1) (u.2.1) (u.2.2.1) (u.2.2.2.1) (u.2.2.2.2.1) (u.2.2.2.2.2.1) (u.2.2.2.2.2.2)) (fun u : Int32 × Int32 × Int32 × Int32 × Int32 × (Nat → Nat → Int32) × Int32 => (fun (kd2 : Int32) (bg2 : Int32) (nx2 : Int32) (ft2 : Int32) (wo2 : Int32) (f2 : Nat → Nat → Int32) (q : Int32) => (0 ≤ wo2.toInt ∧ wo2.toInt ≤ 6) ∧ (zZ4 f2) ∧ (-1 ≤ ft2.toInt) ∧ (0 ≤ nx2.toInt ∧ nx2.toInt ≤ 400) ∧ (0 ≤ bg2.toInt ∧ bg2.toInt ≤ 400) ∧ (zKd kd2.toInt bg2.toInt nx2.toInt) ∧ (q = 0 ∨ q = 1)) (u.1) (u.2.1) (u.2.2.1) (u.2.2.2.1) (u.2.2.2.2.1) (u.2.2.2.2.2.1) (u.2.2.2.2.2.2)) (fun u : Int32 × Int32 × Int32 × Int32 × Int32 × (Nat → Nat → Int32) × Int32 => (fun (kd2 : Int32) (bg2 : Int32) (nx2 : Int32) (ft2 : Int32) (wo2 : Int32) (f2 : Nat → Nat → Int32) (q : Int32) => [bTT g tt ta o, bTape g ta ab sz ln kd2 bg2 nx2 ft2 fb, bTown g o a pe wo2 tx ch jo tr dy sd f2]) (u.1) (u.2.1) (u.2.2.1) (u.2.2.2.1) (u.2.2.2.2.1) (u.2.2.2.2.2.1) (u.2.2.2.2.2.2)) := by
  refine zM'.of (cc := cX10_readWork) (maxL := 4) (rt := (some .boolean)) (by decide) rfl (Nat.le_of_ble_eq_true rfl) ?_
  intro p e s m args below meth c A ls St hr hlocks hin hK hT hA hP hD hS hl
  obtain ⟨hx, hb, hml, hown, hts⟩ := id St
  have hl : lv_has ls 4 [(0, .ref tt)] := hl
  refine lv_aload_n hx hb dX10_readWork_0 rfl (lv_at hl 0 rfl) ?_
  refine va_get (D := g.1) (ci := 8) (v := .ref o) (C := RX10) (T := TX10) (N := 2) hx hb hts izRX10 hown hK hP 0 rfl rfl 1 (by decide) (hts _ k439) (fun _ h9 => h9) rfl dX10_readWork_1 ?_
  refine va_get (D := g.1) (ci := 7) (v := .int wo) (C := RX9) (T := TX9) (N := 19) hx hb hts izRX9 hown hK hP 3 rfl rfl 1 (by decide) (hts _ k455) (fun _ h9 => h9) rfl dX10_readWork_4 ?_
  refine lv_bipush (v := 6) hx hb dX10_readWork_7 (by decide) ?_
  refine lv_icmp_lt (tgt := 20) hx hb dX10_readWork_9 (by decide) (fun cb9 => ?_) (fun cb9 => ?_)
  · skip
    have c1 : wo.toInt < 6 := zlti cb9 rfl (by decide)
    have n2 : wo.toInt ≤ 5 := zL1 (b := 6) c1 (Int.le_refl _) (by decide)
    refine lv_aload_n hx hb dX10_readWork_20 rfl (lv_at hl 0 rfl) ?_
    refine va_get (D := g.1) (ci := 8) (v := .ref ta) (C := RX10) (T := TX10) (N := 2) hx hb hts izRX10 hown hK hP 0 rfl rfl 0 (by decide) (hts _ k441) (fun x9 h9 => u_same (hts _ k442) x9 h9) rfl dX10_readWork_21 ?_
    refine mcallV' (g := g) (q0 := 0) (ci := 6) (As := []) (rest := []) St hK hT hA hP hD hS hl.1 [1] [0, 2] rfl rfl rfl (c_t_step l g ta ab sz ln kd bg nx ft fb hln hnx) (cwV 0 hts (zgL (zl4 k444 k275 k276 k277) k271) rfl rfl rfl (by decide +kernel) ⟨Nat.le_of_ble_eq_true rfl, Nat.le_of_ble_eq_true rfl⟩) rfl rfl rfl rfl (Nat.le_of_ble_eq_true rfl) dX10_readWork_24 ⟨(Nat.le_of_ble_eq_true rfl), (Nat.le_of_ble_eq_true rfl)⟩ (fun u_ H locs hq6 hP hD hS => ?_)
    obtain ⟨kd2_3, bg2_4, nx2_5⟩ := u_
    replace hq6 : (0 ≤ nx2_5.toInt ∧ nx2_5.toInt ≤ 400) ∧ (0 ≤ bg2_4.toInt ∧ bg2_4.toInt ≤ 400) ∧ (zKd kd2_3.toInt bg2_4.toInt nx2_5.toInt) := hq6
    have hP : va_P g.1 vwCl (List.flatten [bTT g tt ta o, bTown g o a pe wo tx ch jo tr dy sd f, bTape g ta ab sz ln kd2_3 bg2_4 nx2_5 ft fb]) H := hP
    have hD : va_D A (List.flatten [bTT g tt ta o, bTown g o a pe wo tx ch jo tr dy sd f, bTape g ta ab sz ln kd2_3 bg2_4 nx2_5 ft fb]) := hD
    refine W.widen (k := 0) (n := 0) (Nat.le_of_ble_eq_true rfl) (Nat.le_of_ble_eq_true rfl) ?_
    refine W.eq (g2 := F0 m 27 ls []) rfl ?_
    obtain ⟨hq6_0, hq6_1, hq6_2⟩ := hq6
    refine lv_aload_n hx hb dX10_readWork_27 rfl (lv_at hl 0 rfl) ?_
    refine va_get (D := g.1) (ci := 8) (v := .ref ta) (C := RX10) (T := TX10) (N := 2) hx hb hts izRX10 hown hK hP 0 rfl rfl 0 (by decide) (hts _ k441) (fun x9 h9 => u_same (hts _ k442) x9 h9) rfl dX10_readWork_28 ?_
    refine lv_iconst (v := 1) hx hb dX10_readWork_31 (by decide) ?_
    refine lv_bipush (v := 99) hx hb dX10_readWork_32 (by decide) ?_
    have hL1 : (1 : Int32).toInt = 1 := by decide
    have hL99 : (99 : Int32).toInt = 99 := by decide
    refine mcallV' (g := g) (q0 := 0) (ci := 6) (As := [.int 1, .int 99]) (rest := []) St hK hT hA hP hD hS hl.1 [2] [0, 1] rfl rfl rfl (c_t_number l g ta ab sz ln kd2_3 bg2_4 nx2_5 ft fb 1 99 hln hq6_0 hq6_1 hq6_2 hft) (cwV 2 hts (zgL (zl4 k445 k294 k295 k277) k273) rfl rfl rfl (by decide +kernel) ⟨Nat.le_of_ble_eq_true rfl, Nat.le_of_ble_eq_true rfl⟩) rfl rfl rfl rfl (Nat.le_of_ble_eq_true rfl) dX10_readWork_34 ⟨(Nat.le_of_ble_eq_true rfl), (Nat.le_of_ble_eq_true rfl)⟩ (fun u_ H locs hq12 hP hD hS => ?_)
    obtain ⟨kd2_7, bg2_8, nx2_9, ft2_10, q_11⟩ := u_
    replace hq12 : (0 ≤ nx2_9.toInt ∧ nx2_9.toInt ≤ 400) ∧ (0 ≤ bg2_8.toInt ∧ bg2_8.toInt ≤ 400) ∧ (zKd kd2_7.toInt bg2_8.toInt nx2_9.toInt) ∧ (-1 ≤ ft2_10.toInt) ∧ (zImp (¬ q_11.toInt = -1) ((1 : Int32).toInt ≤ q_11.toInt ∧ q_11.toInt ≤ (99 : Int32).toInt)) := hq12
    have hP : va_P g.1 vwCl (List.flatten [bTT g tt ta o, bTown g o a pe wo tx ch jo tr dy sd f, bTape g ta ab sz ln kd2_7 bg2_8 nx2_9 ft2_10 fb]) H := hP
    have hD : va_D A (List.flatten [bTT g tt ta o, bTown g o a pe wo tx ch jo tr dy sd f, bTape g ta ab sz ln kd2_7 bg2_8 nx2_9 ft2_10 fb]) := hD
    refine W.widen (k := 0) (n := 0) (Nat.le_of_ble_eq_true rfl) (Nat.le_of_ble_eq_true rfl) ?_
    refine W.eq (g2 := F0 m 37 ls [.int q_11]) rfl ?_
    obtain ⟨hq12_0, hq12_1, hq12_2, hq12_3, hq12_4⟩ := hq12
    refine lv_istore_n (lv' := [(1, .int q_11), (0, .ref tt)]) hx hb dX10_readWork_37 rfl hl (by decide) rfl (fun ls hl => ?_)
    refine lv_iload_n hx hb dX10_readWork_38 rfl (lv_at hl 0 rfl) ?_
    refine lv_iconst (v := (-1)) hx hb dX10_readWork_39 (by decide) ?_
    refine lv_icmp_eq (tgt := 55) hx hb dX10_readWork_40 (by decide) (fun cb9 => ?_) (fun cb9 => ?_)
    · skip
      have c13 : q_11.toInt = (-1) := zeq cb9 rfl (by decide)
      have n14 : q_11.toInt ≤ (-1) := Int.le_trans (Int.le_of_eq c13) (Int.le_refl _)
      refine lv_iconst (v := 0) hx hb dX10_readWork_55 (by decide) ?_
      have hP : va_P g.1 vwCl (List.flatten [bTT g tt ta o, bTown g o a pe wo tx ch jo tr dy sd f, bTape g ta ab sz ln kd2_7 bg2_8 nx2_9 ft2_10 fb]) H := hP
      have hD : va_D A (List.flatten [bTT g tt ta o, bTown g o a pe wo tx ch jo tr dy sd f, bTape g ta ab sz ln kd2_7 bg2_8 nx2_9 ft2_10 fb]) := hD
      obtain ⟨hP, hD⟩ := zord (g := g) (Bs' := [bTT g tt ta o, bTape g ta ab sz ln kd2_7 bg2_8 nx2_9 ft2_10 fb, bTown g o a pe wo tx ch jo tr dy sd f]) [0, 2, 1] rfl rfl hP hD
      exact mret_z hx hb hr hlocks hS (Nat.le_of_ble_eq_true rfl) (Nat.le_of_ble_eq_true rfl) dX10_readWork_56 (kd2_7, bg2_8, nx2_9, ft2_10, wo, f, (0 : Int32)) rfl (by decide) (show (0 ≤ wo.toInt ∧ wo.toInt ≤ 6) ∧ (zZ4 f) ∧ (-1 ≤ ft2_10.toInt) ∧ (0 ≤ nx2_9.toInt ∧ nx2_9.toInt ≤ 400) ∧ (0 ≤ bg2_8.toInt ∧ bg2_8.toInt ≤ 400) ∧ (zKd kd2_7.toInt bg2_8.toInt nx2_9.toInt) ∧ (0 = 0 ∨ 0 = 1) from ⟨b_wo, rf, hq12_3, hq12_0, hq12_1, hq12_2, (by decide)⟩) hP hD
    · skip
      have c15 : ¬ q_11.toInt = (-1) := zne cb9 rfl (by decide)
      have w16 := hq12_4 c15
      have w17 : 1 ≤ q_11.toInt ∧ q_11.toInt ≤ 99 := by omega
      refine lv_aload_n hx hb dX10_readWork_43 rfl (lv_at hl 1 rfl) ?_
      refine va_get (D := g.1) (ci := 8) (v := .ref ta) (C := RX10) (T := TX10) (N := 2) hx hb hts izRX10 hown hK hP 0 rfl rfl 0 (by decide) (hts _ k441) (fun x9 h9 => u_same (hts _ k442) x9 h9) rfl dX10_readWork_44 ?_
      refine va_ldcS (q := g.2 58) hx hb hown (zra24 hT.2.1) dX10_readWork_47 ?_
      refine mcallV' (g := g) (q0 := 0) (ci := 6) (As := [.ref (g.2 58)]) (rest := []) St hK hT hA hP hD hS hl.1 [2] [0, 1] rfl rfl rfl (c_t_needWord l g ta ab sz ln kd2_7 bg2_8 nx2_9 ft2_10 fb (g.2 58) 24 zqa24 hln hq12_0 hq12_1 hq12_2 hq12_3 rfl zla24 zna24) (cwV 1 hts (zgL (zl4 k446 k447 k448 k277) k431) rfl rfl rfl (by decide +kernel) ⟨Nat.le_of_ble_eq_true rfl, Nat.le_of_ble_eq_true rfl⟩) rfl rfl rfl rfl (Nat.le_of_ble_eq_true rfl) dX10_readWork_49 ⟨(Nat.le_of_ble_eq_true rfl), (Nat.le_of_ble_eq_true rfl)⟩ (fun u_ H locs hq23 hP hD hS => ?_)
      obtain ⟨kd2_18, bg2_19, nx2_20, ft2_21, r_22⟩ := u_
      replace hq23 : (0 ≤ nx2_20.toInt ∧ nx2_20.toInt ≤ 400) ∧ (0 ≤ bg2_19.toInt ∧ bg2_19.toInt ≤ 400) ∧ (zKd kd2_18.toInt bg2_19.toInt nx2_20.toInt) ∧ (-1 ≤ ft2_21.toInt) ∧ (r_22 = 0 ∨ r_22 = 1) := hq23
      have hP : va_P g.1 vwCl (List.flatten [bTT g tt ta o, bTown g o a pe wo tx ch jo tr dy sd f, bTape g ta ab sz ln kd2_18 bg2_19 nx2_20 ft2_21 fb]) H := hP
      have hD : va_D A (List.flatten [bTT g tt ta o, bTown g o a pe wo tx ch jo tr dy sd f, bTape g ta ab sz ln kd2_18 bg2_19 nx2_20 ft2_21 fb]) := hD
      refine W.widen (k := 0) (n := 0) (Nat.le_of_ble_eq_true rfl) (Nat.le_of_ble_eq_true rfl) ?_
      refine W.eq (g2 := F0 m 52 ls [.int r_22]) rfl ?_
      obtain ⟨hq23_0, hq23_1, hq23_2, hq23_3, hq23_4⟩ := hq23
      rcases hq23_4 with rfl | rfl
      · skip
        refine lv_if_ne (tgt := 57) hx hb dX10_readWork_52 (by decide) (fun c24 => absurd (by decide) c24) (fun _ => ?_)
        refine lv_iconst (v := 0) hx hb dX10_readWork_55 (by decide) ?_
        have hP : va_P g.1 vwCl (List.flatten [bTT g tt ta o, bTown g o a pe wo tx ch jo tr dy sd f, bTape g ta ab sz ln kd2_18 bg2_19 nx2_20 ft2_21 fb]) H := hP
        have hD : va_D A (List.flatten [bTT g tt ta o, bTown g o a pe wo tx ch jo tr dy sd f, bTape g ta ab sz ln kd2_18 bg2_19 nx2_20 ft2_21 fb]) := hD
        obtain ⟨hP, hD⟩ := zord (g := g) (Bs' := [bTT g tt ta o, bTape g ta ab sz ln kd2_18 bg2_19 nx2_20 ft2_21 fb, bTown g o a pe wo tx ch jo tr dy sd f]) [0, 2, 1] rfl rfl hP hD
        exact mret_z hx hb hr hlocks hS (Nat.le_of_ble_eq_true rfl) (Nat.le_of_ble_eq_true rfl) dX10_readWork_56 (kd2_18, bg2_19, nx2_20, ft2_21, wo, f, (0 : Int32)) rfl (by decide) (show (0 ≤ wo.toInt ∧ wo.toInt ≤ 6) ∧ (zZ4 f) ∧ (-1 ≤ ft2_21.toInt) ∧ (0 ≤ nx2_20.toInt ∧ nx2_20.toInt ≤ 400) ∧ (0 ≤ bg2_19.toInt ∧ bg2_19.toInt ≤ 400) ∧ (zKd kd2_18.toInt bg2_19.toInt nx2_20.toInt) ∧ (0 = 0 ∨ 0 = 1) from ⟨b_wo, rf, hq23_3, hq23_0, hq23_1, hq23_2, (by decide)⟩) hP hD
      · skip
        refine lv_if_ne (tgt := 57) hx hb dX10_readWork_52 (by decide) (fun _ => ?_) (fun c25 => absurd c25 (by decide))
        refine lv_aload_n hx hb dX10_readWork_57 rfl (lv_at hl 1 rfl) ?_
        refine va_get (D := g.1) (ci := 8) (v := .ref ta) (C := RX10) (T := TX10) (N := 2) hx hb hts izRX10 hown hK hP 0 rfl rfl 0 (by decide) (hts _ k441) (fun x9 h9 => u_same (hts _ k442) x9 h9) rfl dX10_readWork_58 ?_
        refine lv_iconst (v := 0) hx hb dX10_readWork_61 (by decide) ?_
        refine lv_sipush (v := 799) hx hb dX10_readWork_62 (by decide) ?_
        have hL0 : (0 : Int32).toInt = 0 := by decide
        have hL799 : (799 : Int32).toInt = 799 := by decide
        refine mcallV' (g := g) (q0 := 0) (ci := 6) (As := [.int 0, .int 799]) (rest := []) St hK hT hA hP hD hS hl.1 [2] [0, 1] rfl rfl rfl (c_t_number l g ta ab sz ln kd2_18 bg2_19 nx2_20 ft2_21 fb 0 799 hln hq23_0 hq23_1 hq23_2 hq23_3) (cwV 2 hts (zgL (zl4 k445 k294 k295 k277) k273) rfl rfl rfl (by decide +kernel) ⟨Nat.le_of_ble_eq_true rfl, Nat.le_of_ble_eq_true rfl⟩) rfl rfl rfl rfl (Nat.le_of_ble_eq_true rfl) dX10_readWork_65 ⟨(Nat.le_of_ble_eq_true rfl), (Nat.le_of_ble_eq_true rfl)⟩ (fun u_ H locs hq31 hP hD hS => ?_)
        obtain ⟨kd2_26, bg2_27, nx2_28, ft2_29, q_30⟩ := u_
        replace hq31 : (0 ≤ nx2_28.toInt ∧ nx2_28.toInt ≤ 400) ∧ (0 ≤ bg2_27.toInt ∧ bg2_27.toInt ≤ 400) ∧ (zKd kd2_26.toInt bg2_27.toInt nx2_28.toInt) ∧ (-1 ≤ ft2_29.toInt) ∧ (zImp (¬ q_30.toInt = -1) ((0 : Int32).toInt ≤ q_30.toInt ∧ q_30.toInt ≤ (799 : Int32).toInt)) := hq31
        have hP : va_P g.1 vwCl (List.flatten [bTT g tt ta o, bTown g o a pe wo tx ch jo tr dy sd f, bTape g ta ab sz ln kd2_26 bg2_27 nx2_28 ft2_29 fb]) H := hP
        have hD : va_D A (List.flatten [bTT g tt ta o, bTown g o a pe wo tx ch jo tr dy sd f, bTape g ta ab sz ln kd2_26 bg2_27 nx2_28 ft2_29 fb]) := hD
        refine W.widen (k := 0) (n := 0) (Nat.le_of_ble_eq_true rfl) (Nat.le_of_ble_eq_true rfl) ?_
        refine W.eq (g2 := F0 m 68 ls [.int q_30]) rfl ?_
        obtain ⟨hq31_0, hq31_1, hq31_2, hq31_3, hq31_4⟩ := hq31
        refine lv_istore_n (lv' := [(2, .int q_30), (1, .int q_11), (0, .ref tt)]) hx hb dX10_readWork_68 rfl hl (by decide) rfl (fun ls hl => ?_)
        refine lv_iload_n hx hb dX10_readWork_69 rfl (lv_at hl 0 rfl) ?_
        refine lv_iconst (v := (-1)) hx hb dX10_readWork_70 (by decide) ?_
        refine lv_icmp_eq (tgt := 86) hx hb dX10_readWork_71 (by decide) (fun cb9 => ?_) (fun cb9 => ?_)
        · skip
          have c32 : q_30.toInt = (-1) := zeq cb9 rfl (by decide)
          have n33 : q_30.toInt ≤ (-1) := Int.le_trans (Int.le_of_eq c32) (Int.le_refl _)
          refine lv_iconst (v := 0) hx hb dX10_readWork_86 (by decide) ?_
          have hP : va_P g.1 vwCl (List.flatten [bTT g tt ta o, bTown g o a pe wo tx ch jo tr dy sd f, bTape g ta ab sz ln kd2_26 bg2_27 nx2_28 ft2_29 fb]) H := hP
          have hD : va_D A (List.flatten [bTT g tt ta o, bTown g o a pe wo tx ch jo tr dy sd f, bTape g ta ab sz ln kd2_26 bg2_27 nx2_28 ft2_29 fb]) := hD
          obtain ⟨hP, hD⟩ := zord (g := g) (Bs' := [bTT g tt ta o, bTape g ta ab sz ln kd2_26 bg2_27 nx2_28 ft2_29 fb, bTown g o a pe wo tx ch jo tr dy sd f]) [0, 2, 1] rfl rfl hP hD
          exact mret_z hx hb hr hlocks hS (Nat.le_of_ble_eq_true rfl) (Nat.le_of_ble_eq_true rfl) dX10_readWork_87 (kd2_26, bg2_27, nx2_28, ft2_29, wo, f, (0 : Int32)) rfl (by decide) (show (0 ≤ wo.toInt ∧ wo.toInt ≤ 6) ∧ (zZ4 f) ∧ (-1 ≤ ft2_29.toInt) ∧ (0 ≤ nx2_28.toInt ∧ nx2_28.toInt ≤ 400) ∧ (0 ≤ bg2_27.toInt ∧ bg2_27.toInt ≤ 400) ∧ (zKd kd2_26.toInt bg2_27.toInt nx2_28.toInt) ∧ (0 = 0 ∨ 0 = 1) from ⟨b_wo, rf, hq31_3, hq31_0, hq31_1, hq31_2, (by decide)⟩) hP hD
        · skip
          have c34 : ¬ q_30.toInt = (-1) := zne cb9 rfl (by decide)
          have w35 := hq31_4 c34
          have w36 : 0 ≤ q_30.toInt ∧ q_30.toInt ≤ 799 := by omega
          refine lv_aload_n hx hb dX10_readWork_74 rfl (lv_at hl 2 rfl) ?_
          refine va_get (D := g.1) (ci := 8) (v := .ref ta) (C := RX10) (T := TX10) (N := 2) hx hb hts izRX10 hown hK hP 0 rfl rfl 0 (by decide) (hts _ k441) (fun x9 h9 => u_same (hts _ k442) x9 h9) rfl dX10_readWork_75 ?_
          refine va_ldcS (q := g.2 60) hx hb hown (zra25 hT.2.1) dX10_readWork_78 ?_
          refine mcallV' (g := g) (q0 := 0) (ci := 6) (As := [.ref (g.2 60)]) (rest := []) St hK hT hA hP hD hS hl.1 [2] [0, 1] rfl rfl rfl (c_t_needWord l g ta ab sz ln kd2_26 bg2_27 nx2_28 ft2_29 fb (g.2 60) 25 zqa25 hln hq31_0 hq31_1 hq31_2 hq31_3 rfl zla25 zna25) (cwV 1 hts (zgL (zl4 k446 k447 k448 k277) k431) rfl rfl rfl (by decide +kernel) ⟨Nat.le_of_ble_eq_true rfl, Nat.le_of_ble_eq_true rfl⟩) rfl rfl rfl rfl (Nat.le_of_ble_eq_true rfl) dX10_readWork_80 ⟨(Nat.le_of_ble_eq_true rfl), (Nat.le_of_ble_eq_true rfl)⟩ (fun u_ H locs hq42 hP hD hS => ?_)
          obtain ⟨kd2_37, bg2_38, nx2_39, ft2_40, r_41⟩ := u_
          replace hq42 : (0 ≤ nx2_39.toInt ∧ nx2_39.toInt ≤ 400) ∧ (0 ≤ bg2_38.toInt ∧ bg2_38.toInt ≤ 400) ∧ (zKd kd2_37.toInt bg2_38.toInt nx2_39.toInt) ∧ (-1 ≤ ft2_40.toInt) ∧ (r_41 = 0 ∨ r_41 = 1) := hq42
          have hP : va_P g.1 vwCl (List.flatten [bTT g tt ta o, bTown g o a pe wo tx ch jo tr dy sd f, bTape g ta ab sz ln kd2_37 bg2_38 nx2_39 ft2_40 fb]) H := hP
          have hD : va_D A (List.flatten [bTT g tt ta o, bTown g o a pe wo tx ch jo tr dy sd f, bTape g ta ab sz ln kd2_37 bg2_38 nx2_39 ft2_40 fb]) := hD
          refine W.widen (k := 0) (n := 0) (Nat.le_of_ble_eq_true rfl) (Nat.le_of_ble_eq_true rfl) ?_
          refine W.eq (g2 := F0 m 83 ls [.int r_41]) rfl ?_
          obtain ⟨hq42_0, hq42_1, hq42_2, hq42_3, hq42_4⟩ := hq42
          rcases hq42_4 with rfl | rfl
          · skip
            refine lv_if_ne (tgt := 88) hx hb dX10_readWork_83 (by decide) (fun c43 => absurd (by decide) c43) (fun _ => ?_)
            refine lv_iconst (v := 0) hx hb dX10_readWork_86 (by decide) ?_
            have hP : va_P g.1 vwCl (List.flatten [bTT g tt ta o, bTown g o a pe wo tx ch jo tr dy sd f, bTape g ta ab sz ln kd2_37 bg2_38 nx2_39 ft2_40 fb]) H := hP
            have hD : va_D A (List.flatten [bTT g tt ta o, bTown g o a pe wo tx ch jo tr dy sd f, bTape g ta ab sz ln kd2_37 bg2_38 nx2_39 ft2_40 fb]) := hD
            obtain ⟨hP, hD⟩ := zord (g := g) (Bs' := [bTT g tt ta o, bTape g ta ab sz ln kd2_37 bg2_38 nx2_39 ft2_40 fb, bTown g o a pe wo tx ch jo tr dy sd f]) [0, 2, 1] rfl rfl hP hD
            exact mret_z hx hb hr hlocks hS (Nat.le_of_ble_eq_true rfl) (Nat.le_of_ble_eq_true rfl) dX10_readWork_87 (kd2_37, bg2_38, nx2_39, ft2_40, wo, f, (0 : Int32)) rfl (by decide) (show (0 ≤ wo.toInt ∧ wo.toInt ≤ 6) ∧ (zZ4 f) ∧ (-1 ≤ ft2_40.toInt) ∧ (0 ≤ nx2_39.toInt ∧ nx2_39.toInt ≤ 400) ∧ (0 ≤ bg2_38.toInt ∧ bg2_38.toInt ≤ 400) ∧ (zKd kd2_37.toInt bg2_38.toInt nx2_39.toInt) ∧ (0 = 0 ∨ 0 = 1) from ⟨b_wo, rf, hq42_3, hq42_0, hq42_1, hq42_2, (by decide)⟩) hP hD
          · skip
            refine lv_if_ne (tgt := 88) hx hb dX10_readWork_83 (by decide) (fun _ => ?_) (fun c44 => absurd c44 (by decide))
            refine lv_aload_n hx hb dX10_readWork_88 rfl (lv_at hl 2 rfl) ?_
            refine va_get (D := g.1) (ci := 8) (v := .ref ta) (C := RX10) (T := TX10) (N := 2) hx hb hts izRX10 hown hK hP 0 rfl rfl 0 (by decide) (hts _ k441) (fun x9 h9 => u_same (hts _ k442) x9 h9) rfl dX10_readWork_89 ?_
            refine lv_iconst (v := 0) hx hb dX10_readWork_92 (by decide) ?_
            refine lv_bipush (v := 20) hx hb dX10_readWork_93 (by decide) ?_
            have hL20 : (20 : Int32).toInt = 20 := by decide
            refine mcallV' (g := g) (q0 := 0) (ci := 6) (As := [.int 0, .int 20]) (rest := []) St hK hT hA hP hD hS hl.1 [2] [0, 1] rfl rfl rfl (c_t_number l g ta ab sz ln kd2_37 bg2_38 nx2_39 ft2_40 fb 0 20 hln hq42_0 hq42_1 hq42_2 hq42_3) (cwV 2 hts (zgL (zl4 k445 k294 k295 k277) k273) rfl rfl rfl (by decide +kernel) ⟨Nat.le_of_ble_eq_true rfl, Nat.le_of_ble_eq_true rfl⟩) rfl rfl rfl rfl (Nat.le_of_ble_eq_true rfl) dX10_readWork_95 ⟨(Nat.le_of_ble_eq_true rfl), (Nat.le_of_ble_eq_true rfl)⟩ (fun u_ H locs hq50 hP hD hS => ?_)
            obtain ⟨kd2_45, bg2_46, nx2_47, ft2_48, q_49⟩ := u_
            replace hq50 : (0 ≤ nx2_47.toInt ∧ nx2_47.toInt ≤ 400) ∧ (0 ≤ bg2_46.toInt ∧ bg2_46.toInt ≤ 400) ∧ (zKd kd2_45.toInt bg2_46.toInt nx2_47.toInt) ∧ (-1 ≤ ft2_48.toInt) ∧ (zImp (¬ q_49.toInt = -1) ((0 : Int32).toInt ≤ q_49.toInt ∧ q_49.toInt ≤ (20 : Int32).toInt)) := hq50
            have hP : va_P g.1 vwCl (List.flatten [bTT g tt ta o, bTown g o a pe wo tx ch jo tr dy sd f, bTape g ta ab sz ln kd2_45 bg2_46 nx2_47 ft2_48 fb]) H := hP
            have hD : va_D A (List.flatten [bTT g tt ta o, bTown g o a pe wo tx ch jo tr dy sd f, bTape g ta ab sz ln kd2_45 bg2_46 nx2_47 ft2_48 fb]) := hD
            refine W.widen (k := 0) (n := 0) (Nat.le_of_ble_eq_true rfl) (Nat.le_of_ble_eq_true rfl) ?_
            refine W.eq (g2 := F0 m 98 ls [.int q_49]) rfl ?_
            obtain ⟨hq50_0, hq50_1, hq50_2, hq50_3, hq50_4⟩ := hq50
            refine lv_istore_n (lv' := [(3, .int q_49), (2, .int q_30), (1, .int q_11), (0, .ref tt)]) hx hb dX10_readWork_98 rfl hl (by decide) rfl (fun ls hl => ?_)
            refine lv_iload_n hx hb dX10_readWork_99 rfl (lv_at hl 0 rfl) ?_
            refine lv_iconst (v := (-1)) hx hb dX10_readWork_100 (by decide) ?_
            refine lv_icmp_ne (tgt := 106) hx hb dX10_readWork_101 (by decide) (fun cb9 => ?_) (fun cb9 => ?_)
            · skip
              have c51 : ¬ q_49.toInt = (-1) := zne cb9 rfl (by decide)
              have w52 := hq50_4 c51
              have w53 : 0 ≤ q_49.toInt ∧ q_49.toInt ≤ 20 := by omega
              refine lv_aload_n hx hb dX10_readWork_106 rfl (lv_at hl 3 rfl) ?_
              refine va_get (D := g.1) (ci := 8) (v := .ref o) (C := RX10) (T := TX10) (N := 2) hx hb hts izRX10 hown hK hP 0 rfl rfl 1 (by decide) (hts _ k439) (fun _ h9 => h9) rfl dX10_readWork_107 ?_
              refine lv_iload_n hx hb dX10_readWork_110 rfl (lv_at hl 2 rfl) ?_
              refine lv_iload_n hx hb dX10_readWork_111 rfl (lv_at hl 1 rfl) ?_
              refine lv_iload_n hx hb dX10_readWork_112 rfl (lv_at hl 0 rfl) ?_
              refine mcallV' (g := g) (q0 := 0) (ci := 7) (As := [.int q_11, .int q_30, .int q_49]) (rest := []) St hK hT hA hP hD hS hl.1 [1] [0, 2] rfl rfl rfl (c_addWork l g o a pe wo tx ch jo tr dy sd f q_11 q_30 q_49 b_pe b_wo rf) (cwV 3 hts (zgL (zl4 k456 k457 k458 k24) k454) rfl rfl rfl (by decide +kernel) ⟨Nat.le_of_ble_eq_true rfl, Nat.le_of_ble_eq_true rfl⟩) rfl rfl rfl rfl (Nat.le_of_ble_eq_true rfl) dX10_readWork_113 ⟨(Nat.le_of_ble_eq_true rfl), (Nat.le_of_ble_eq_true rfl)⟩ (fun u_ H locs hq56 hP hD hS => ?_)
              obtain ⟨wo2_54, f2_55⟩ := u_
              replace hq56 : (0 ≤ wo2_54.toInt ∧ wo2_54.toInt ≤ 6) ∧ (zZ4 f2_55) := hq56
              have hP : va_P g.1 vwCl (List.flatten [bTT g tt ta o, bTape g ta ab sz ln kd2_45 bg2_46 nx2_47 ft2_48 fb, bTown g o a pe wo2_54 tx ch jo tr dy sd f2_55]) H := hP
              have hD : va_D A (List.flatten [bTT g tt ta o, bTape g ta ab sz ln kd2_45 bg2_46 nx2_47 ft2_48 fb, bTown g o a pe wo2_54 tx ch jo tr dy sd f2_55]) := hD
              refine W.widen (k := 0) (n := 0) (Nat.le_of_ble_eq_true rfl) (Nat.le_of_ble_eq_true rfl) ?_
              refine W.eq (g2 := F0 m 116 ls []) rfl ?_
              obtain ⟨hq56_0, rf2_55⟩ := hq56
              refine lv_iconst (v := 1) hx hb dX10_readWork_116 (by decide) ?_
              have hP : va_P g.1 vwCl (List.flatten [bTT g tt ta o, bTape g ta ab sz ln kd2_45 bg2_46 nx2_47 ft2_48 fb, bTown g o a pe wo2_54 tx ch jo tr dy sd f2_55]) H := hP
              have hD : va_D A (List.flatten [bTT g tt ta o, bTape g ta ab sz ln kd2_45 bg2_46 nx2_47 ft2_48 fb, bTown g o a pe wo2_54 tx ch jo tr dy sd f2_55]) := hD
              exact mret_z hx hb hr hlocks hS (Nat.le_of_ble_eq_true rfl) (Nat.le_of_ble_eq_true rfl) dX10_readWork_117 (kd2_45, bg2_46, nx2_47, ft2_48, wo2_54, f2_55, (1 : Int32)) rfl (by decide) (show (0 ≤ wo2_54.toInt ∧ wo2_54.toInt ≤ 6) ∧ (zZ4 f2_55) ∧ (-1 ≤ ft2_48.toInt) ∧ (0 ≤ nx2_47.toInt ∧ nx2_47.toInt ≤ 400) ∧ (0 ≤ bg2_46.toInt ∧ bg2_46.toInt ≤ 400) ∧ (zKd kd2_45.toInt bg2_46.toInt nx2_47.toInt) ∧ (1 = 0 ∨ 1 = 1) from ⟨hq56_0, rf2_55, hq50_3, hq50_0, hq50_1, hq50_2, (by decide)⟩) hP hD
            · skip
              have c57 : q_49.toInt = (-1) := zeq cb9 rfl (by decide)
              have n58 : q_49.toInt ≤ (-1) := Int.le_trans (Int.le_of_eq c57) (Int.le_refl _)
              refine lv_iconst (v := 0) hx hb dX10_readWork_104 (by decide) ?_
              have hP : va_P g.1 vwCl (List.flatten [bTT g tt ta o, bTown g o a pe wo tx ch jo tr dy sd f, bTape g ta ab sz ln kd2_45 bg2_46 nx2_47 ft2_48 fb]) H := hP
              have hD : va_D A (List.flatten [bTT g tt ta o, bTown g o a pe wo tx ch jo tr dy sd f, bTape g ta ab sz ln kd2_45 bg2_46 nx2_47 ft2_48 fb]) := hD
              obtain ⟨hP, hD⟩ := zord (g := g) (Bs' := [bTT g tt ta o, bTape g ta ab sz ln kd2_45 bg2_46 nx2_47 ft2_48 fb, bTown g o a pe wo tx ch jo tr dy sd f]) [0, 2, 1] rfl rfl hP hD
              exact mret_z hx hb hr hlocks hS (Nat.le_of_ble_eq_true rfl) (Nat.le_of_ble_eq_true rfl) dX10_readWork_105 (kd2_45, bg2_46, nx2_47, ft2_48, wo, f, (0 : Int32)) rfl (by decide) (show (0 ≤ wo.toInt ∧ wo.toInt ≤ 6) ∧ (zZ4 f) ∧ (-1 ≤ ft2_48.toInt) ∧ (0 ≤ nx2_47.toInt ∧ nx2_47.toInt ≤ 400) ∧ (0 ≤ bg2_46.toInt ∧ bg2_46.toInt ≤ 400) ∧ (zKd kd2_45.toInt bg2_46.toInt nx2_47.toInt) ∧ (0 = 0 ∨ 0 = 1) from ⟨b_wo, rf, hq50_3, hq50_0, hq50_1, hq50_2, (by decide)⟩) hP hD
  · skip
    have c59 : 6 ≤ wo.toInt := zle (Int32.not_lt.mp cb9) (by decide) rfl
    have n60 : 6 ≤ wo.toInt := Int.le_trans (Int.le_refl _) c59
    refine lv_aload_n hx hb dX10_readWork_12 rfl (lv_at hl 0 rfl) ?_
    refine va_get (D := g.1) (ci := 8) (v := .ref ta) (C := RX10) (T := TX10) (N := 2) hx hb hts izRX10 hown hK hP 0 rfl rfl 0 (by decide) (hts _ k441) (fun x9 h9 => u_same (hts _ k442) x9 h9) rfl dX10_readWork_13 ?_
    refine mcallV' (g := g) (q0 := 0) (ci := 6) (As := []) (rest := []) St hK hT hA hP hD hS hl.1 [1] [0, 2] rfl rfl rfl (c_t_refuse l g ta ab sz ln kd bg nx ft fb hln hnx hbg hkd hft) (cwV 0 hts (zgL (zl4 k443 k279 k280 k277) k269) rfl rfl rfl (by decide +kernel) ⟨Nat.le_of_ble_eq_true rfl, Nat.le_of_ble_eq_true rfl⟩) rfl rfl rfl rfl (Nat.le_of_ble_eq_true rfl) dX10_readWork_16 ⟨(Nat.le_of_ble_eq_true rfl), (Nat.le_of_ble_eq_true rfl)⟩ (fun ft2_61 H locs hq62 hP hD hS => ?_)
    replace hq62 : (-1 ≤ ft2_61.toInt) := hq62
    have hP : va_P g.1 vwCl (List.flatten [bTT g tt ta o, bTown g o a pe wo tx ch jo tr dy sd f, bTape g ta ab sz ln kd bg nx ft2_61 fb]) H := hP
    have hD : va_D A (List.flatten [bTT g tt ta o, bTown g o a pe wo tx ch jo tr dy sd f, bTape g ta ab sz ln kd bg nx ft2_61 fb]) := hD
    refine W.widen (k := 0) (n := 0) (Nat.le_of_ble_eq_true rfl) (Nat.le_of_ble_eq_true rfl) ?_
    refine W.eq (g2 := F0 m 19 ls [.int 0]) rfl ?_
    have hP : va_P g.1 vwCl (List.flatten [bTT g tt ta o, bTown g o a pe wo tx ch jo tr dy sd f, bTape g ta ab sz ln kd bg nx ft2_61 fb]) H := hP
    have hD : va_D A (List.flatten [bTT g tt ta o, bTown g o a pe wo tx ch jo tr dy sd f, bTape g ta ab sz ln kd bg nx ft2_61 fb]) := hD
    obtain ⟨hP, hD⟩ := zord (g := g) (Bs' := [bTT g tt ta o, bTape g ta ab sz ln kd bg nx ft2_61 fb, bTown g o a pe wo tx ch jo tr dy sd f]) [0, 2, 1] rfl rfl hP hD
    exact mret_z hx hb hr hlocks hS (Nat.le_of_ble_eq_true rfl) (Nat.le_of_ble_eq_true rfl) dX10_readWork_19 (kd, bg, nx, ft2_61, wo, f, (0 : Int32)) rfl (by decide) (show (0 ≤ wo.toInt ∧ wo.toInt ≤ 6) ∧ (zZ4 f) ∧ (-1 ≤ ft2_61.toInt) ∧ (0 ≤ nx.toInt ∧ nx.toInt ≤ 400) ∧ (0 ≤ bg.toInt ∧ bg.toInt ≤ 400) ∧ (zKd kd.toInt bg.toInt nx.toInt) ∧ (0 = 0 ∨ 0 = 1) from ⟨b_wo, rf, hq62, hnx, hbg, hkd, (by decide)⟩) hP hD
set_option maxRecDepth 100000 in
set_option maxHeartbeats 4000000 in
theorem c_tt_readTrusts (l : Launch) (g : zG) (tt : Nat) (ta : Nat) (o : Nat) (ab : Nat) (sz : Int32) (ln : Int32) (kd : Int32) (bg : Int32) (nx : Int32) (ft : Int32) (fb : Nat → Int32) (a : Nat → Nat) (pe : Int32) (wo : Int32) (tx : Int32) (ch : Int32) (jo : Int32) (tr : Int32) (dy : Int32) (sd : Int32) (f : Nat → Nat → Int32) (b_pe : 0 ≤ pe.toInt ∧ pe.toInt ≤ 8) (b_wo : 0 ≤ wo.toInt ∧ wo.toInt ≤ 6) (rf : zZ4 f) (hln : 0 ≤ ln.toInt ∧ ln.toInt ≤ 400) (hnx : 0 ≤ nx.toInt ∧ nx.toInt ≤ 400) (hbg : 0 ≤ bg.toInt ∧ bg.toInt ≤ 400) (hkd : zKd kd.toInt bg.toInt nx.toInt) (hft : -1 ≤ ft.toInt) : zM' g l yX10_readTrusts (Cond.code yX10_readTrusts cX10_readTrusts 3 (some .boolean) :: zB) ({ frames := 2, cells := 0, slots := 0, locals := 45 } : Room) [.ref tt] [bTT g tt ta o, bTape g ta ab sz ln kd bg nx ft fb, bTown g o a pe wo tx ch jo tr dy sd f] (fun u : Int32 × Int32 × Int32 × Int32 × (Nat → Nat → Int32) × Int32 => (fun (kd2 : Int32) (bg2 : Int32) (nx2 : Int32) (ft2 : Int32) (f2 : Nat → Nat → Int32) (q : Int32) => some (.int q)) (u.1) (u.2.1) (u.2.2.1) (u.2.2.2.1) (u.2.2.2.2.1) (u.2.2.2.2.2)) (fun u : Int32 × Int32 × Int32 × Int32 × (Nat → Nat → Int32) × Int32 => (fun (kd2 : Int32) (bg2 : Int32) (nx2 : Int32) (ft2 : Int32) (f2 : Nat → Nat → Int32) (q : Int32) => (zZ4 f2) ∧ (-1 ≤ ft2.toInt) ∧ (0 ≤ nx2.toInt ∧ nx2.toInt ≤ 400) ∧ (0 ≤ bg2.toInt ∧ bg2.toInt ≤ 400) ∧ (zKd kd2.toInt bg2.toInt nx2.toInt) ∧ (q = 0 ∨ q = 1)) (u.1) (u.2.1) (u.2.2.1) (u.2.2.2.1) (u.2.2.2.2.1) (u.2.2.2.2.2)) (fun u : Int32 × Int32 × Int32 × Int32 × (Nat → Nat → Int32) × Int32 => (fun (kd2 : Int32) (bg2 : Int32) (nx2 : Int32) (ft2 : Int32) (f2 : Nat → Nat → Int32) (q : Int32) => [bTT g tt ta o, bTape g ta ab sz ln kd2 bg2 nx2 ft2 fb, bTown g o a pe wo tx ch jo tr dy sd f2]) (u.1) (u.2.1) (u.2.2.1) (u.2.2.2.1) (u.2.2.2.2.1) (u.2.2.2.2.2)) := by
  refine zM'.of (cc := cX10_readTrusts) (maxL := 3) (rt := (some .boolean)) (by decide) rfl (Nat.le_of_ble_eq_true rfl) ?_
  intro p e s m args below meth c A ls St hr hlocks hin hK hT hA hP hD hS hl
  obtain ⟨hx, hb, hml, hown, hts⟩ := id St
  have hl : lv_has ls 3 [(0, .ref tt)] := hl
  refine lv_aload_n hx hb dX10_readTrusts_0 rfl (lv_at hl 0 rfl) ?_
  refine va_get (D := g.1) (ci := 8) (v := .ref ta) (C := RX10) (T := TX10) (N := 2) hx hb hts izRX10 hown hK hP 0 rfl rfl 0 (by decide) (hts _ k441) (fun x9 h9 => u_same (hts _ k442) x9 h9) rfl dX10_readTrusts_1 ?_
  refine lv_iconst (v := 0) hx hb dX10_readTrusts_4 (by decide) ?_
  refine lv_aload_n hx hb dX10_readTrusts_5 rfl (lv_at hl 0 rfl) ?_
  refine va_get (D := g.1) (ci := 8) (v := .ref o) (C := RX10) (T := TX10) (N := 2) hx hb hts izRX10 hown hK hP 0 rfl rfl 1 (by decide) (hts _ k439) (fun _ h9 => h9) rfl dX10_readTrusts_6 ?_
  refine va_get (D := g.1) (ci := 7) (v := .int pe) (C := RX9) (T := TX9) (N := 19) hx hb hts izRX9 hown hK hP 3 rfl rfl 0 (by decide) (hts _ k440) (fun _ h9 => h9) rfl dX10_readTrusts_9 ?_
  refine lv_iconst (v := 1) hx hb dX10_readTrusts_12 (by decide) ?_
  refine lv_isub hx hb dX10_readTrusts_13 ?_
  refine zg3 (zsubK (i := pe.toInt) (j := 1) (a' := (-1)) (b' := 7) rfl (by decide) b_pe.1 b_pe.2 (Int.le_refl _) (Int.le_refl _) (by decide)) (fun x_1 hx_1 => ?_)
  have hL0 : (0 : Int32).toInt = 0 := by decide
  refine mcallV' (g := g) (q0 := 0) (ci := 6) (As := [.int 0, .int x_1]) (rest := []) St hK hT hA hP hD hS hl.1 [1] [0, 2] rfl rfl rfl (c_t_number l g ta ab sz ln kd bg nx ft fb 0 x_1 hln hnx hbg hkd hft) (cwV 2 hts (zgL (zl4 k445 k294 k295 k277) k273) rfl rfl rfl (by decide +kernel) ⟨Nat.le_of_ble_eq_true rfl, Nat.le_of_ble_eq_true rfl⟩) rfl rfl rfl rfl (Nat.le_of_ble_eq_true rfl) dX10_readTrusts_14 ⟨(Nat.le_of_ble_eq_true rfl), (Nat.le_of_ble_eq_true rfl)⟩ (fun u_ H locs hq7 hP hD hS => ?_)
  obtain ⟨kd2_2, bg2_3, nx2_4, ft2_5, q_6⟩ := u_
  replace hq7 : (0 ≤ nx2_4.toInt ∧ nx2_4.toInt ≤ 400) ∧ (0 ≤ bg2_3.toInt ∧ bg2_3.toInt ≤ 400) ∧ (zKd kd2_2.toInt bg2_3.toInt nx2_4.toInt) ∧ (-1 ≤ ft2_5.toInt) ∧ (zImp (¬ q_6.toInt = -1) ((0 : Int32).toInt ≤ q_6.toInt ∧ q_6.toInt ≤ x_1.toInt)) := hq7
  have hP : va_P g.1 vwCl (List.flatten [bTT g tt ta o, bTown g o a pe wo tx ch jo tr dy sd f, bTape g ta ab sz ln kd2_2 bg2_3 nx2_4 ft2_5 fb]) H := hP
  have hD : va_D A (List.flatten [bTT g tt ta o, bTown g o a pe wo tx ch jo tr dy sd f, bTape g ta ab sz ln kd2_2 bg2_3 nx2_4 ft2_5 fb]) := hD
  refine W.widen (k := 0) (n := 0) (Nat.le_of_ble_eq_true rfl) (Nat.le_of_ble_eq_true rfl) ?_
  refine W.eq (g2 := F0 m 17 ls [.int q_6]) rfl ?_
  obtain ⟨hq7_0, hq7_1, hq7_2, hq7_3, hq7_4⟩ := hq7
  refine lv_istore_n (lv' := [(1, .int q_6), (0, .ref tt)]) hx hb dX10_readTrusts_17 rfl hl (by decide) rfl (fun ls hl => ?_)
  refine lv_iload_n hx hb dX10_readTrusts_18 rfl (lv_at hl 0 rfl) ?_
  refine lv_iconst (v := (-1)) hx hb dX10_readTrusts_19 (by decide) ?_
  refine lv_icmp_ne (tgt := 25) hx hb dX10_readTrusts_20 (by decide) (fun cb9 => ?_) (fun cb9 => ?_)
  · skip
    have c8 : ¬ q_6.toInt = (-1) := zne cb9 rfl (by decide)
    have w9 := hq7_4 c8
    have w10 : 0 ≤ q_6.toInt ∧ q_6.toInt ≤ 7 := by omega
    refine lv_aload_n hx hb dX10_readTrusts_25 rfl (lv_at hl 1 rfl) ?_
    refine va_get (D := g.1) (ci := 8) (v := .ref ta) (C := RX10) (T := TX10) (N := 2) hx hb hts izRX10 hown hK hP 0 rfl rfl 0 (by decide) (hts _ k441) (fun x9 h9 => u_same (hts _ k442) x9 h9) rfl dX10_readTrusts_26 ?_
    refine va_get (D := g.1) (ci := 6) (v := .int kd2_2) (C := RX6) (T := TX6) (N := 7) hx hb hts izRX6 hown hK hP 13 rfl rfl 3 (by decide) (hts _ k460) (fun _ h9 => h9) rfl dX10_readTrusts_29 ?_
    refine lv_iconst (v := 2) hx hb dX10_readTrusts_32 (by decide) ?_
    refine lv_icmp_ne (tgt := 61) hx hb dX10_readTrusts_33 (by decide) (fun cb9 => ?_) (fun cb9 => ?_)
    · skip
      have c11 : ¬ kd2_2.toInt = 2 := zne cb9 rfl (by decide)
      refine lv_aload_n hx hb dX10_readTrusts_61 rfl (lv_at hl 1 rfl) ?_
      refine va_get (D := g.1) (ci := 8) (v := .ref ta) (C := RX10) (T := TX10) (N := 2) hx hb hts izRX10 hown hK hP 0 rfl rfl 0 (by decide) (hts _ k441) (fun x9 h9 => u_same (hts _ k442) x9 h9) rfl dX10_readTrusts_62 ?_
      refine mcallV' (g := g) (q0 := 0) (ci := 6) (As := []) (rest := []) St hK hT hA hP hD hS hl.1 [2] [0, 1] rfl rfl rfl (c_t_refuse l g ta ab sz ln kd2_2 bg2_3 nx2_4 ft2_5 fb hln hq7_0 hq7_1 hq7_2 hq7_3) (cwV 0 hts (zgL (zl4 k443 k279 k280 k277) k269) rfl rfl rfl (by decide +kernel) ⟨Nat.le_of_ble_eq_true rfl, Nat.le_of_ble_eq_true rfl⟩) rfl rfl rfl rfl (Nat.le_of_ble_eq_true rfl) dX10_readTrusts_65 ⟨(Nat.le_of_ble_eq_true rfl), (Nat.le_of_ble_eq_true rfl)⟩ (fun ft2_12 H locs hq13 hP hD hS => ?_)
      replace hq13 : (-1 ≤ ft2_12.toInt) := hq13
      have hP : va_P g.1 vwCl (List.flatten [bTT g tt ta o, bTown g o a pe wo tx ch jo tr dy sd f, bTape g ta ab sz ln kd2_2 bg2_3 nx2_4 ft2_12 fb]) H := hP
      have hD : va_D A (List.flatten [bTT g tt ta o, bTown g o a pe wo tx ch jo tr dy sd f, bTape g ta ab sz ln kd2_2 bg2_3 nx2_4 ft2_12 fb]) := hD
      refine W.widen (k := 0) (n := 0) (Nat.le_of_ble_eq_true rfl) (Nat.le_of_ble_eq_true rfl) ?_
      refine W.eq (g2 := F0 m 68 ls [.int 0]) rfl ?_
      have hP : va_P g.1 vwCl (List.flatten [bTT g tt ta o, bTown g o a pe wo tx ch jo tr dy sd f, bTape g ta ab sz ln kd2_2 bg2_3 nx2_4 ft2_12 fb]) H := hP
      have hD : va_D A (List.flatten [bTT g tt ta o, bTown g o a pe wo tx ch jo tr dy sd f, bTape g ta ab sz ln kd2_2 bg2_3 nx2_4 ft2_12 fb]) := hD
      obtain ⟨hP, hD⟩ := zord (g := g) (Bs' := [bTT g tt ta o, bTape g ta ab sz ln kd2_2 bg2_3 nx2_4 ft2_12 fb, bTown g o a pe wo tx ch jo tr dy sd f]) [0, 2, 1] rfl rfl hP hD
      exact mret_z hx hb hr hlocks hS (Nat.le_of_ble_eq_true rfl) (Nat.le_of_ble_eq_true rfl) dX10_readTrusts_68 (kd2_2, bg2_3, nx2_4, ft2_12, f, (0 : Int32)) rfl (by decide) (show (zZ4 f) ∧ (-1 ≤ ft2_12.toInt) ∧ (0 ≤ nx2_4.toInt ∧ nx2_4.toInt ≤ 400) ∧ (0 ≤ bg2_3.toInt ∧ bg2_3.toInt ≤ 400) ∧ (zKd kd2_2.toInt bg2_3.toInt nx2_4.toInt) ∧ (0 = 0 ∨ 0 = 1) from ⟨rf, hq13, hq7_0, hq7_1, hq7_2, (by decide)⟩) hP hD
    · skip
      have c14 : kd2_2.toInt = 2 := zeq cb9 rfl (by decide)
      have n15 : 2 ≤ kd2_2.toInt := Int.le_trans (Int.le_refl _) (Int.le_of_eq c14.symm)
      have n16 : kd2_2.toInt ≤ 2 := Int.le_trans (Int.le_of_eq c14) (Int.le_refl _)
      refine lv_aload_n hx hb dX10_readTrusts_36 rfl (lv_at hl 1 rfl) ?_
      refine va_get (D := g.1) (ci := 8) (v := .ref ta) (C := RX10) (T := TX10) (N := 2) hx hb hts izRX10 hown hK hP 0 rfl rfl 0 (by decide) (hts _ k441) (fun x9 h9 => u_same (hts _ k442) x9 h9) rfl dX10_readTrusts_37 ?_
      refine va_get (D := g.1) (ci := 6) (v := .int nx2_4) (C := RX6) (T := TX6) (N := 7) hx hb hts izRX6 hown hK hP 13 rfl rfl 5 (by decide) (hts _ k461) (fun _ h9 => h9) rfl dX10_readTrusts_40 ?_
      refine lv_aload_n hx hb dX10_readTrusts_43 rfl (lv_at hl 1 rfl) ?_
      refine va_get (D := g.1) (ci := 8) (v := .ref ta) (C := RX10) (T := TX10) (N := 2) hx hb hts izRX10 hown hK hP 0 rfl rfl 0 (by decide) (hts _ k441) (fun x9 h9 => u_same (hts _ k442) x9 h9) rfl dX10_readTrusts_44 ?_
      refine va_get (D := g.1) (ci := 6) (v := .int bg2_3) (C := RX6) (T := TX6) (N := 7) hx hb hts izRX6 hown hK hP 13 rfl rfl 4 (by decide) (hts _ k462) (fun _ h9 => h9) rfl dX10_readTrusts_47 ?_
      refine lv_isub hx hb dX10_readTrusts_50 ?_
      refine zg3 (zsubK (i := nx2_4.toInt) (j := bg2_3.toInt) (a' := (-400)) (b' := 400) rfl rfl hq7_0.1 hq7_0.2 hq7_1.1 hq7_1.2 (by decide)) (fun x_17 hx_17 => ?_)
      refine lv_aload_n hx hb dX10_readTrusts_51 rfl (lv_at hl 1 rfl) ?_
      refine va_get (D := g.1) (ci := 8) (v := .ref o) (C := RX10) (T := TX10) (N := 2) hx hb hts izRX10 hown hK hP 0 rfl rfl 1 (by decide) (hts _ k439) (fun _ h9 => h9) rfl dX10_readTrusts_52 ?_
      refine va_get (D := g.1) (ci := 7) (v := .int pe) (C := RX9) (T := TX9) (N := 19) hx hb hts izRX9 hown hK hP 1 rfl rfl 0 (by decide) (hts _ k440) (fun _ h9 => h9) rfl dX10_readTrusts_55 ?_
      refine lv_icmp_eq (tgt := 69) hx hb dX10_readTrusts_58 (by decide) (fun cb9 => ?_) (fun cb9 => ?_)
      · skip
        have c18 : x_17.toInt = pe.toInt := zeq cb9 rfl rfl
        have n19 : 0 ≤ x_17.toInt := Int.le_trans b_pe.1 (Int.le_of_eq c18.symm)
        have n20 : x_17.toInt ≤ 8 := Int.le_trans (Int.le_of_eq c18) b_pe.2
        refine lv_iconst (v := 0) hx hb dX10_readTrusts_69 (by decide) ?_
        refine lv_istore_n (lv' := [(2, .int 0), (1, .int q_6), (0, .ref tt)]) hx hb dX10_readTrusts_70 rfl hl (by decide) rfl (fun ls hl => ?_)
        have hl := lv_sub (l' := [(0, .ref tt), (1, .int q_6), (2, .int 0)]) hl [2, 1, 0] rfl
        have LP71_25 : ∀ (kf : Nat) (x_21 : Int32) (f_22 : Nat → Nat → Int32), (0 ≤ x_21.toInt ∧ x_21.toInt ≤ 8) → (zZ4 f_22) → (zKd kd2_2.toInt bg2_3.toInt nx2_4.toInt) → ∀ (H : Heap) (locs : List Loc) (ls : Array Slot), ((9 - x_21.toInt).toNat) < kf → va_P g.1 vwCl (List.flatten [bTT g tt ta o, bTown g o a pe wo tx ch jo tr dy sd f_22, bTape g ta ab sz ln kd2_2 bg2_3 nx2_4 ft2_5 fb]) H → va_D A (List.flatten [bTT g tt ta o, bTown g o a pe wo tx ch jo tr dy sd f_22, bTape g ta ab sz ln kd2_2 bg2_3 nx2_4 ft2_5 fb]) → va_S A s.heap H locs → lv_has ls 3 [(0, .ref tt), (1, .int q_6), (2, .int x_21)] → W p l e ({ frames := 2, cells := 0, slots := 0, locals := 45 } : Room) s m args below meth c H locs (0) (0) (zF g (fun u : Int32 × Int32 × Int32 × Int32 × (Nat → Nat → Int32) × Int32 => (fun (kd2 : Int32) (bg2 : Int32) (nx2 : Int32) (ft2 : Int32) (f2 : Nat → Nat → Int32) (q : Int32) => some (.int q)) (u.1) (u.2.1) (u.2.2.1) (u.2.2.2.1) (u.2.2.2.2.1) (u.2.2.2.2.2)) (fun u : Int32 × Int32 × Int32 × Int32 × (Nat → Nat → Int32) × Int32 => (fun (kd2 : Int32) (bg2 : Int32) (nx2 : Int32) (ft2 : Int32) (f2 : Nat → Nat → Int32) (q : Int32) => (zZ4 f2) ∧ (-1 ≤ ft2.toInt) ∧ (0 ≤ nx2.toInt ∧ nx2.toInt ≤ 400) ∧ (0 ≤ bg2.toInt ∧ bg2.toInt ≤ 400) ∧ (zKd kd2.toInt bg2.toInt nx2.toInt) ∧ (q = 0 ∨ q = 1)) (u.1) (u.2.1) (u.2.2.1) (u.2.2.2.1) (u.2.2.2.2.1) (u.2.2.2.2.2)) (fun u : Int32 × Int32 × Int32 × Int32 × (Nat → Nat → Int32) × Int32 => (fun (kd2 : Int32) (bg2 : Int32) (nx2 : Int32) (ft2 : Int32) (f2 : Nat → Nat → Int32) (q : Int32) => [bTT g tt ta o, bTape g ta ab sz ln kd2 bg2 nx2 ft2 fb, bTown g o a pe wo tx ch jo tr dy sd f2]) (u.1) (u.2.1) (u.2.2.1) (u.2.2.2.1) (u.2.2.2.2.1) (u.2.2.2.2.2)) ({ frames := 2, cells := 0, slots := 0, locals := 45 } : Room) below args s A) (F0 m 71 ls []) := by
          intro kf
          induction kf with
          | zero => intro x_21 f_22 i23 rf_22 i24 H locs ls hk; exact absurd hk (Nat.not_lt_zero _)
          | succ kf ih71_26 =>
            intro x_21 f_22 i23 rf_22 i24 H locs ls hk71_26 hP hD hS hl
            refine lv_iload_n hx hb dX10_readTrusts_71 rfl (lv_at hl 2 rfl) ?_
            refine lv_aload_n hx hb dX10_readTrusts_72 rfl (lv_at hl 0 rfl) ?_
            refine va_get (D := g.1) (ci := 8) (v := .ref o) (C := RX10) (T := TX10) (N := 2) hx hb hts izRX10 hown hK hP 0 rfl rfl 1 (by decide) (hts _ k439) (fun _ h9 => h9) rfl dX10_readTrusts_73 ?_
            refine va_get (D := g.1) (ci := 7) (v := .int pe) (C := RX9) (T := TX9) (N := 19) hx hb hts izRX9 hown hK hP 1 rfl rfl 0 (by decide) (hts _ k440) (fun _ h9 => h9) rfl dX10_readTrusts_76 ?_
            refine lv_icmp_ge (tgt := 122) hx hb dX10_readTrusts_79 (by decide) (fun cb9 => ?_) (fun cb9 => ?_)
            · skip
              have c27 : pe.toInt ≤ x_21.toInt := zle cb9 rfl rfl
              refine lv_aload_n hx hb dX10_readTrusts_122 rfl (lv_at hl 0 rfl) ?_
              refine va_get (D := g.1) (ci := 8) (v := .ref ta) (C := RX10) (T := TX10) (N := 2) hx hb hts izRX10 hown hK hP 0 rfl rfl 0 (by decide) (hts _ k441) (fun x9 h9 => u_same (hts _ k442) x9 h9) rfl dX10_readTrusts_123 ?_
              refine mcallV' (g := g) (q0 := 0) (ci := 6) (As := []) (rest := []) St hK hT hA hP hD hS hl.1 [2] [0, 1] rfl rfl rfl (c_t_step l g ta ab sz ln kd2_2 bg2_3 nx2_4 ft2_5 fb hln hq7_0) (cwV 0 hts (zgL (zl4 k444 k275 k276 k277) k271) rfl rfl rfl (by decide +kernel) ⟨Nat.le_of_ble_eq_true rfl, Nat.le_of_ble_eq_true rfl⟩) rfl rfl rfl rfl (Nat.le_of_ble_eq_true rfl) dX10_readTrusts_126 ⟨(Nat.le_of_ble_eq_true rfl), (Nat.le_of_ble_eq_true rfl)⟩ (fun u_ H locs hq31 hP hD hS => ?_)
              obtain ⟨kd2_28, bg2_29, nx2_30⟩ := u_
              replace hq31 : (0 ≤ nx2_30.toInt ∧ nx2_30.toInt ≤ 400) ∧ (0 ≤ bg2_29.toInt ∧ bg2_29.toInt ≤ 400) ∧ (zKd kd2_28.toInt bg2_29.toInt nx2_30.toInt) := hq31
              have hP : va_P g.1 vwCl (List.flatten [bTT g tt ta o, bTown g o a pe wo tx ch jo tr dy sd f_22, bTape g ta ab sz ln kd2_28 bg2_29 nx2_30 ft2_5 fb]) H := hP
              have hD : va_D A (List.flatten [bTT g tt ta o, bTown g o a pe wo tx ch jo tr dy sd f_22, bTape g ta ab sz ln kd2_28 bg2_29 nx2_30 ft2_5 fb]) := hD
              refine W.widen (k := 0) (n := 0) (Nat.le_of_ble_eq_true rfl) (Nat.le_of_ble_eq_true rfl) ?_
              refine W.eq (g2 := F0 m 129 ls []) rfl ?_
              obtain ⟨hq31_0, hq31_1, hq31_2⟩ := hq31
              refine lv_iconst (v := 1) hx hb dX10_readTrusts_129 (by decide) ?_
              have hP : va_P g.1 vwCl (List.flatten [bTT g tt ta o, bTown g o a pe wo tx ch jo tr dy sd f_22, bTape g ta ab sz ln kd2_28 bg2_29 nx2_30 ft2_5 fb]) H := hP
              have hD : va_D A (List.flatten [bTT g tt ta o, bTown g o a pe wo tx ch jo tr dy sd f_22, bTape g ta ab sz ln kd2_28 bg2_29 nx2_30 ft2_5 fb]) := hD
              obtain ⟨hP, hD⟩ := zord (g := g) (Bs' := [bTT g tt ta o, bTape g ta ab sz ln kd2_28 bg2_29 nx2_30 ft2_5 fb, bTown g o a pe wo tx ch jo tr dy sd f_22]) [0, 2, 1] rfl rfl hP hD
              exact mret_z hx hb hr hlocks hS (Nat.le_of_ble_eq_true rfl) (Nat.le_of_ble_eq_true rfl) dX10_readTrusts_130 (kd2_28, bg2_29, nx2_30, ft2_5, f_22, (1 : Int32)) rfl (by decide) (show (zZ4 f_22) ∧ (-1 ≤ ft2_5.toInt) ∧ (0 ≤ nx2_30.toInt ∧ nx2_30.toInt ≤ 400) ∧ (0 ≤ bg2_29.toInt ∧ bg2_29.toInt ≤ 400) ∧ (zKd kd2_28.toInt bg2_29.toInt nx2_30.toInt) ∧ (1 = 0 ∨ 1 = 1) from ⟨rf_22, hq7_3, hq31_0, hq31_1, hq31_2, (by decide)⟩) hP hD
            · skip
              have c32 : x_21.toInt < pe.toInt := zlti (Int32.not_le.mp cb9) rfl rfl
              have n33 : x_21.toInt ≤ 7 := zL1 (b := 8) c32 b_pe.2 (by decide)
              have n34 : 1 ≤ pe.toInt := zL2 (a := 0) c32 i23.1 (by decide)
              refine lv_iload_n hx hb dX10_readTrusts_82 rfl (lv_at hl 2 rfl) ?_
              refine lv_iload_n hx hb dX10_readTrusts_83 rfl (lv_at hl 1 rfl) ?_
              refine lv_icmp_eq (tgt := 116) hx hb dX10_readTrusts_84 (by decide) (fun cb9 => ?_) (fun cb9 => ?_)
              · skip
                have c35 : x_21.toInt = q_6.toInt := zeq cb9 rfl rfl
                refine ziinc3 (n' := 1) (a' := 1) (b' := 8) (lv' := fun v9 => [(2, .int v9), (0, .ref tt), (1, .int q_6)]) hx hb dX10_readTrusts_116 hl (k := 2) rfl (by decide) (fun _ => rfl) (zaddK (i := x_21.toInt) (j := 1) rfl (by decide) i23.1 n33 (Int.le_refl _) (Int.le_refl _) (by decide)) (fun x_36 ls hx_36 hl => ?_)
                refine lv_goto (tgt := 71) hx hb dX10_readTrusts_119 (by decide) ?_
                have hl := lv_sub (l' := [(0, .ref tt), (1, .int q_6), (2, .int x_36)]) hl [1, 2, 0] rfl
                have hP : va_P g.1 vwCl (List.flatten [bTT g tt ta o, bTown g o a pe wo tx ch jo tr dy sd f_22, bTape g ta ab sz ln kd2_2 bg2_3 nx2_4 ft2_5 fb]) H := hP
                have hD : va_D A (List.flatten [bTT g tt ta o, bTown g o a pe wo tx ch jo tr dy sd f_22, bTape g ta ab sz ln kd2_2 bg2_3 nx2_4 ft2_5 fb]) := hD
                exact ih71_26 x_36 f_22 ⟨(Int.le_trans (by decide) hx_36.2.1), hx_36.2.2⟩ rf_22 i24 H _ ls (zmK hx_36.1 (by decide) n33 (by decide) hk71_26)  hP hD hS (lv_sub hl [0, 1, 2] rfl)
              · skip
                have c37 : ¬ x_21.toInt = q_6.toInt := zne cb9 rfl rfl
                refine lv_aload_n hx hb dX10_readTrusts_87 rfl (lv_at hl 0 rfl) ?_
                refine va_get (D := g.1) (ci := 8) (v := .ref o) (C := RX10) (T := TX10) (N := 2) hx hb hts izRX10 hown hK hP 0 rfl rfl 1 (by decide) (hts _ k439) (fun _ h9 => h9) rfl dX10_readTrusts_88 ?_
                refine lv_iload_n hx hb dX10_readTrusts_91 rfl (lv_at hl 1 rfl) ?_
                refine lv_iload_n hx hb dX10_readTrusts_92 rfl (lv_at hl 2 rfl) ?_
                refine lv_aload_n hx hb dX10_readTrusts_93 rfl (lv_at hl 0 rfl) ?_
                refine va_get (D := g.1) (ci := 8) (v := .ref ta) (C := RX10) (T := TX10) (N := 2) hx hb hts izRX10 hown hK hP 0 rfl rfl 0 (by decide) (hts _ k441) (fun x9 h9 => u_same (hts _ k442) x9 h9) rfl dX10_readTrusts_94 ?_
                refine va_get (D := g.1) (ci := 6) (v := .ref ab) (C := RX6) (T := TX6) (N := 7) hx hb hts izRX6 hown hK hP 13 rfl rfl 0 (by decide) (hts _ k463) (fun _ h9 => h9) rfl dX10_readTrusts_97 ?_
                refine lv_aload_n hx hb dX10_readTrusts_100 rfl (lv_at hl 0 rfl) ?_
                refine va_get (D := g.1) (ci := 8) (v := .ref ta) (C := RX10) (T := TX10) (N := 2) hx hb hts izRX10 hown hK hP 0 rfl rfl 0 (by decide) (hts _ k441) (fun x9 h9 => u_same (hts _ k442) x9 h9) rfl dX10_readTrusts_101 ?_
                refine va_get (D := g.1) (ci := 6) (v := .int bg2_3) (C := RX6) (T := TX6) (N := 7) hx hb hts izRX6 hown hK hP 13 rfl rfl 4 (by decide) (hts _ k462) (fun _ h9 => h9) rfl dX10_readTrusts_104 ?_
                refine lv_iload_n hx hb dX10_readTrusts_107 rfl (lv_at hl 2 rfl) ?_
                refine lv_iadd hx hb dX10_readTrusts_108 ?_
                refine zg3 (zaddK (i := bg2_3.toInt) (j := x_21.toInt) (a' := 0) (b' := 407) rfl rfl hq7_1.1 hq7_1.2 i23.1 n33 (by decide)) (fun x_38 hx_38 => ?_)
                refine va_iald hx hb hK hP 14 0 rfl rfl (zinI (by omega) (by omega)) dX10_readTrusts_109 ?_
                refine zg (fun x_39 => ?_)
                refine lv_bipush (v := 48) hx hb dX10_readTrusts_110 (by decide) ?_
                refine lv_isub hx hb dX10_readTrusts_112 ?_
                refine zg (fun x_40 => ?_)
                refine mcallV' (g := g) (q0 := 0) (ci := 7) (As := [.int q_6, .int x_21, .int x_40]) (rest := []) St hK hT hA hP hD hS hl.1 [1] [0, 2] rfl rfl rfl (c_setTrust l g o a pe wo tx ch jo tr dy sd f_22 q_6 x_21 x_40 rf_22 (⟨w10.1, w10.2⟩) (⟨i23.1, n33⟩)) (cwV 3 hts (zgL (zl4 k464 k437 k438 k24) k434) rfl rfl rfl (by decide +kernel) ⟨Nat.le_of_ble_eq_true rfl, Nat.le_of_ble_eq_true rfl⟩) rfl rfl rfl rfl (Nat.le_of_ble_eq_true rfl) dX10_readTrusts_113 ⟨(Nat.le_of_ble_eq_true rfl), (Nat.le_of_ble_eq_true rfl)⟩ (fun f2_41 H locs hq42 hP hD hS => ?_)
                replace hq42 : (zZ4 f2_41) := hq42
                have hP : va_P g.1 vwCl (List.flatten [bTT g tt ta o, bTape g ta ab sz ln kd2_2 bg2_3 nx2_4 ft2_5 fb, bTown g o a pe wo tx ch jo tr dy sd f2_41]) H := hP
                have hD : va_D A (List.flatten [bTT g tt ta o, bTape g ta ab sz ln kd2_2 bg2_3 nx2_4 ft2_5 fb, bTown g o a pe wo tx ch jo tr dy sd f2_41]) := hD
                refine W.widen (k := 0) (n := 0) (Nat.le_of_ble_eq_true rfl) (Nat.le_of_ble_eq_true rfl) ?_
                refine W.eq (g2 := F0 m 116 ls []) rfl ?_
                have rf2_41 := hq42; clear hq42
                refine ziinc3 (n' := 1) (a' := 1) (b' := 8) (lv' := fun v9 => [(2, .int v9), (0, .ref tt), (1, .int q_6)]) hx hb dX10_readTrusts_116 hl (k := 2) rfl (by decide) (fun _ => rfl) (zaddK (i := x_21.toInt) (j := 1) rfl (by decide) i23.1 n33 (Int.le_refl _) (Int.le_refl _) (by decide)) (fun x_43 ls hx_43 hl => ?_)
                refine lv_goto (tgt := 71) hx hb dX10_readTrusts_119 (by decide) ?_
                have hl := lv_sub (l' := [(0, .ref tt), (1, .int q_6), (2, .int x_43)]) hl [1, 2, 0] rfl
                have hP : va_P g.1 vwCl (List.flatten [bTT g tt ta o, bTape g ta ab sz ln kd2_2 bg2_3 nx2_4 ft2_5 fb, bTown g o a pe wo tx ch jo tr dy sd f2_41]) H := hP
                have hD : va_D A (List.flatten [bTT g tt ta o, bTape g ta ab sz ln kd2_2 bg2_3 nx2_4 ft2_5 fb, bTown g o a pe wo tx ch jo tr dy sd f2_41]) := hD
                obtain ⟨hP, hD⟩ := zord (g := g) (Bs' := [bTT g tt ta o, bTown g o a pe wo tx ch jo tr dy sd f2_41, bTape g ta ab sz ln kd2_2 bg2_3 nx2_4 ft2_5 fb]) [0, 2, 1] rfl rfl hP hD
                have hP : va_P g.1 vwCl (List.flatten [bTT g tt ta o, bTown g o a pe wo tx ch jo tr dy sd f2_41, bTape g ta ab sz ln kd2_2 bg2_3 nx2_4 ft2_5 fb]) H := hP
                have hD : va_D A (List.flatten [bTT g tt ta o, bTown g o a pe wo tx ch jo tr dy sd f2_41, bTape g ta ab sz ln kd2_2 bg2_3 nx2_4 ft2_5 fb]) := hD
                exact ih71_26 x_43 f2_41 ⟨(Int.le_trans (by decide) hx_43.2.1), hx_43.2.2⟩ rf2_41 i24 H _ ls (zmK hx_43.1 (by decide) n33 (by decide) hk71_26)  hP hD hS (lv_sub hl [0, 1, 2] rfl)
        have hP : va_P g.1 vwCl (List.flatten [bTT g tt ta o, bTown g o a pe wo tx ch jo tr dy sd f, bTape g ta ab sz ln kd2_2 bg2_3 nx2_4 ft2_5 fb]) H := hP
        have hD : va_D A (List.flatten [bTT g tt ta o, bTown g o a pe wo tx ch jo tr dy sd f, bTape g ta ab sz ln kd2_2 bg2_3 nx2_4 ft2_5 fb]) := hD
        exact LP71_25 _ 0 f (by decide) rf hq7_2 H _ ls (Nat.lt_succ_self _)  hP hD hS (lv_sub hl [0, 1, 2] rfl)
      · skip
        have c44 : ¬ x_17.toInt = pe.toInt := zne cb9 rfl rfl
        refine lv_aload_n hx hb dX10_readTrusts_61 rfl (lv_at hl 1 rfl) ?_
        refine va_get (D := g.1) (ci := 8) (v := .ref ta) (C := RX10) (T := TX10) (N := 2) hx hb hts izRX10 hown hK hP 0 rfl rfl 0 (by decide) (hts _ k441) (fun x9 h9 => u_same (hts _ k442) x9 h9) rfl dX10_readTrusts_62 ?_
        refine mcallV' (g := g) (q0 := 0) (ci := 6) (As := []) (rest := []) St hK hT hA hP hD hS hl.1 [2] [0, 1] rfl rfl rfl (c_t_refuse l g ta ab sz ln kd2_2 bg2_3 nx2_4 ft2_5 fb hln hq7_0 hq7_1 hq7_2 hq7_3) (cwV 0 hts (zgL (zl4 k443 k279 k280 k277) k269) rfl rfl rfl (by decide +kernel) ⟨Nat.le_of_ble_eq_true rfl, Nat.le_of_ble_eq_true rfl⟩) rfl rfl rfl rfl (Nat.le_of_ble_eq_true rfl) dX10_readTrusts_65 ⟨(Nat.le_of_ble_eq_true rfl), (Nat.le_of_ble_eq_true rfl)⟩ (fun ft2_45 H locs hq46 hP hD hS => ?_)
        replace hq46 : (-1 ≤ ft2_45.toInt) := hq46
        have hP : va_P g.1 vwCl (List.flatten [bTT g tt ta o, bTown g o a pe wo tx ch jo tr dy sd f, bTape g ta ab sz ln kd2_2 bg2_3 nx2_4 ft2_45 fb]) H := hP
        have hD : va_D A (List.flatten [bTT g tt ta o, bTown g o a pe wo tx ch jo tr dy sd f, bTape g ta ab sz ln kd2_2 bg2_3 nx2_4 ft2_45 fb]) := hD
        refine W.widen (k := 0) (n := 0) (Nat.le_of_ble_eq_true rfl) (Nat.le_of_ble_eq_true rfl) ?_
        refine W.eq (g2 := F0 m 68 ls [.int 0]) rfl ?_
        have hP : va_P g.1 vwCl (List.flatten [bTT g tt ta o, bTown g o a pe wo tx ch jo tr dy sd f, bTape g ta ab sz ln kd2_2 bg2_3 nx2_4 ft2_45 fb]) H := hP
        have hD : va_D A (List.flatten [bTT g tt ta o, bTown g o a pe wo tx ch jo tr dy sd f, bTape g ta ab sz ln kd2_2 bg2_3 nx2_4 ft2_45 fb]) := hD
        obtain ⟨hP, hD⟩ := zord (g := g) (Bs' := [bTT g tt ta o, bTape g ta ab sz ln kd2_2 bg2_3 nx2_4 ft2_45 fb, bTown g o a pe wo tx ch jo tr dy sd f]) [0, 2, 1] rfl rfl hP hD
        exact mret_z hx hb hr hlocks hS (Nat.le_of_ble_eq_true rfl) (Nat.le_of_ble_eq_true rfl) dX10_readTrusts_68 (kd2_2, bg2_3, nx2_4, ft2_45, f, (0 : Int32)) rfl (by decide) (show (zZ4 f) ∧ (-1 ≤ ft2_45.toInt) ∧ (0 ≤ nx2_4.toInt ∧ nx2_4.toInt ≤ 400) ∧ (0 ≤ bg2_3.toInt ∧ bg2_3.toInt ≤ 400) ∧ (zKd kd2_2.toInt bg2_3.toInt nx2_4.toInt) ∧ (0 = 0 ∨ 0 = 1) from ⟨rf, hq46, hq7_0, hq7_1, hq7_2, (by decide)⟩) hP hD
  · skip
    have c47 : q_6.toInt = (-1) := zeq cb9 rfl (by decide)
    have n48 : q_6.toInt ≤ (-1) := Int.le_trans (Int.le_of_eq c47) (Int.le_refl _)
    refine lv_iconst (v := 0) hx hb dX10_readTrusts_23 (by decide) ?_
    have hP : va_P g.1 vwCl (List.flatten [bTT g tt ta o, bTown g o a pe wo tx ch jo tr dy sd f, bTape g ta ab sz ln kd2_2 bg2_3 nx2_4 ft2_5 fb]) H := hP
    have hD : va_D A (List.flatten [bTT g tt ta o, bTown g o a pe wo tx ch jo tr dy sd f, bTape g ta ab sz ln kd2_2 bg2_3 nx2_4 ft2_5 fb]) := hD
    obtain ⟨hP, hD⟩ := zord (g := g) (Bs' := [bTT g tt ta o, bTape g ta ab sz ln kd2_2 bg2_3 nx2_4 ft2_5 fb, bTown g o a pe wo tx ch jo tr dy sd f]) [0, 2, 1] rfl rfl hP hD
    exact mret_z hx hb hr hlocks hS (Nat.le_of_ble_eq_true rfl) (Nat.le_of_ble_eq_true rfl) dX10_readTrusts_24 (kd2_2, bg2_3, nx2_4, ft2_5, f, (0 : Int32)) rfl (by decide) (show (zZ4 f) ∧ (-1 ≤ ft2_5.toInt) ∧ (0 ≤ nx2_4.toInt ∧ nx2_4.toInt ≤ 400) ∧ (0 ≤ bg2_3.toInt ∧ bg2_3.toInt ≤ 400) ∧ (zKd kd2_2.toInt bg2_3.toInt nx2_4.toInt) ∧ (0 = 0 ∨ 0 = 1) from ⟨rf, hq7_3, hq7_0, hq7_1, hq7_2, (by decide)⟩) hP hD
set_option maxRecDepth 100000 in
set_option maxHeartbeats 4000000 in
theorem c_tt_readShares (l : Launch) (g : zG) (tt : Nat) (ta : Nat) (o : Nat) (ab : Nat) (sz : Int32) (ln : Int32) (kd : Int32) (bg : Int32) (nx : Int32) (ft : Int32) (fb : Nat → Int32) (a : Nat → Nat) (pe : Int32) (wo : Int32) (tx : Int32) (ch : Int32) (jo : Int32) (tr : Int32) (dy : Int32) (sd : Int32) (f : Nat → Nat → Int32) (b_pe : 0 ≤ pe.toInt ∧ pe.toInt ≤ 8) (b_wo : 0 ≤ wo.toInt ∧ wo.toInt ≤ 6) (rf : zZ4 f) (hln : 0 ≤ ln.toInt ∧ ln.toInt ≤ 400) (hnx : 0 ≤ nx.toInt ∧ nx.toInt ≤ 400) (hbg : 0 ≤ bg.toInt ∧ bg.toInt ≤ 400) (hkd : zKd kd.toInt bg.toInt nx.toInt) (hft : -1 ≤ ft.toInt) : zM' g l yX10_readShares (Cond.code yX10_readShares cX10_readShares 3 (some .boolean) :: zB) ({ frames := 2, cells := 0, slots := 0, locals := 45 } : Room) [.ref tt] [bTT g tt ta o, bTape g ta ab sz ln kd bg nx ft fb, bTown g o a pe wo tx ch jo tr dy sd f] (fun u : Int32 × Int32 × Int32 × Int32 × (Nat → Nat → Int32) × Int32 => (fun (kd2 : Int32) (bg2 : Int32) (nx2 : Int32) (ft2 : Int32) (f2 : Nat → Nat → Int32) (q : Int32) => some (.int q)) (u.1) (u.2.1) (u.2.2.1) (u.2.2.2.1) (u.2.2.2.2.1) (u.2.2.2.2.2)) (fun u : Int32 × Int32 × Int32 × Int32 × (Nat → Nat → Int32) × Int32 => (fun (kd2 : Int32) (bg2 : Int32) (nx2 : Int32) (ft2 : Int32) (f2 : Nat → Nat → Int32) (q : Int32) => (zZ4 f2) ∧ (-1 ≤ ft2.toInt) ∧ (0 ≤ nx2.toInt ∧ nx2.toInt ≤ 400) ∧ (0 ≤ bg2.toInt ∧ bg2.toInt ≤ 400) ∧ (zKd kd2.toInt bg2.toInt nx2.toInt) ∧ (q = 0 ∨ q = 1)) (u.1) (u.2.1) (u.2.2.1) (u.2.2.2.1) (u.2.2.2.2.1) (u.2.2.2.2.2)) (fun u : Int32 × Int32 × Int32 × Int32 × (Nat → Nat → Int32) × Int32 => (fun (kd2 : Int32) (bg2 : Int32) (nx2 : Int32) (ft2 : Int32) (f2 : Nat → Nat → Int32) (q : Int32) => [bTT g tt ta o, bTape g ta ab sz ln kd2 bg2 nx2 ft2 fb, bTown g o a pe wo tx ch jo tr dy sd f2]) (u.1) (u.2.1) (u.2.2.1) (u.2.2.2.1) (u.2.2.2.2.1) (u.2.2.2.2.2)) := by
  refine zM'.of (cc := cX10_readShares) (maxL := 3) (rt := (some .boolean)) (by decide) rfl (Nat.le_of_ble_eq_true rfl) ?_
  intro p e s m args below meth c A ls St hr hlocks hin hK hT hA hP hD hS hl
  obtain ⟨hx, hb, hml, hown, hts⟩ := id St
  have hl : lv_has ls 3 [(0, .ref tt)] := hl
  refine lv_aload_n hx hb dX10_readShares_0 rfl (lv_at hl 0 rfl) ?_
  refine va_get (D := g.1) (ci := 8) (v := .ref ta) (C := RX10) (T := TX10) (N := 2) hx hb hts izRX10 hown hK hP 0 rfl rfl 0 (by decide) (hts _ k441) (fun x9 h9 => u_same (hts _ k442) x9 h9) rfl dX10_readShares_1 ?_
  refine lv_iconst (v := 0) hx hb dX10_readShares_4 (by decide) ?_
  refine lv_aload_n hx hb dX10_readShares_5 rfl (lv_at hl 0 rfl) ?_
  refine va_get (D := g.1) (ci := 8) (v := .ref o) (C := RX10) (T := TX10) (N := 2) hx hb hts izRX10 hown hK hP 0 rfl rfl 1 (by decide) (hts _ k439) (fun _ h9 => h9) rfl dX10_readShares_6 ?_
  refine va_get (D := g.1) (ci := 7) (v := .int pe) (C := RX9) (T := TX9) (N := 19) hx hb hts izRX9 hown hK hP 3 rfl rfl 0 (by decide) (hts _ k440) (fun _ h9 => h9) rfl dX10_readShares_9 ?_
  refine lv_iconst (v := 1) hx hb dX10_readShares_12 (by decide) ?_
  refine lv_isub hx hb dX10_readShares_13 ?_
  refine zg3 (zsubK (i := pe.toInt) (j := 1) (a' := (-1)) (b' := 7) rfl (by decide) b_pe.1 b_pe.2 (Int.le_refl _) (Int.le_refl _) (by decide)) (fun x_1 hx_1 => ?_)
  have hL0 : (0 : Int32).toInt = 0 := by decide
  refine mcallV' (g := g) (q0 := 0) (ci := 6) (As := [.int 0, .int x_1]) (rest := []) St hK hT hA hP hD hS hl.1 [1] [0, 2] rfl rfl rfl (c_t_number l g ta ab sz ln kd bg nx ft fb 0 x_1 hln hnx hbg hkd hft) (cwV 2 hts (zgL (zl4 k445 k294 k295 k277) k273) rfl rfl rfl (by decide +kernel) ⟨Nat.le_of_ble_eq_true rfl, Nat.le_of_ble_eq_true rfl⟩) rfl rfl rfl rfl (Nat.le_of_ble_eq_true rfl) dX10_readShares_14 ⟨(Nat.le_of_ble_eq_true rfl), (Nat.le_of_ble_eq_true rfl)⟩ (fun u_ H locs hq7 hP hD hS => ?_)
  obtain ⟨kd2_2, bg2_3, nx2_4, ft2_5, q_6⟩ := u_
  replace hq7 : (0 ≤ nx2_4.toInt ∧ nx2_4.toInt ≤ 400) ∧ (0 ≤ bg2_3.toInt ∧ bg2_3.toInt ≤ 400) ∧ (zKd kd2_2.toInt bg2_3.toInt nx2_4.toInt) ∧ (-1 ≤ ft2_5.toInt) ∧ (zImp (¬ q_6.toInt = -1) ((0 : Int32).toInt ≤ q_6.toInt ∧ q_6.toInt ≤ x_1.toInt)) := hq7
  have hP : va_P g.1 vwCl (List.flatten [bTT g tt ta o, bTown g o a pe wo tx ch jo tr dy sd f, bTape g ta ab sz ln kd2_2 bg2_3 nx2_4 ft2_5 fb]) H := hP
  have hD : va_D A (List.flatten [bTT g tt ta o, bTown g o a pe wo tx ch jo tr dy sd f, bTape g ta ab sz ln kd2_2 bg2_3 nx2_4 ft2_5 fb]) := hD
  refine W.widen (k := 0) (n := 0) (Nat.le_of_ble_eq_true rfl) (Nat.le_of_ble_eq_true rfl) ?_
  refine W.eq (g2 := F0 m 17 ls [.int q_6]) rfl ?_
  obtain ⟨hq7_0, hq7_1, hq7_2, hq7_3, hq7_4⟩ := hq7
  refine lv_istore_n (lv' := [(1, .int q_6), (0, .ref tt)]) hx hb dX10_readShares_17 rfl hl (by decide) rfl (fun ls hl => ?_)
  refine lv_iload_n hx hb dX10_readShares_18 rfl (lv_at hl 0 rfl) ?_
  refine lv_iconst (v := (-1)) hx hb dX10_readShares_19 (by decide) ?_
  refine lv_icmp_ne (tgt := 25) hx hb dX10_readShares_20 (by decide) (fun cb9 => ?_) (fun cb9 => ?_)
  · skip
    have c8 : ¬ q_6.toInt = (-1) := zne cb9 rfl (by decide)
    have w9 := hq7_4 c8
    have w10 : 0 ≤ q_6.toInt ∧ q_6.toInt ≤ 7 := by omega
    refine lv_aload_n hx hb dX10_readShares_25 rfl (lv_at hl 1 rfl) ?_
    refine va_get (D := g.1) (ci := 8) (v := .ref ta) (C := RX10) (T := TX10) (N := 2) hx hb hts izRX10 hown hK hP 0 rfl rfl 0 (by decide) (hts _ k441) (fun x9 h9 => u_same (hts _ k442) x9 h9) rfl dX10_readShares_26 ?_
    refine lv_iconst (v := 0) hx hb dX10_readShares_29 (by decide) ?_
    refine lv_bipush (v := 99) hx hb dX10_readShares_30 (by decide) ?_
    have hL99 : (99 : Int32).toInt = 99 := by decide
    refine mcallV' (g := g) (q0 := 0) (ci := 6) (As := [.int 0, .int 99]) (rest := []) St hK hT hA hP hD hS hl.1 [2] [0, 1] rfl rfl rfl (c_t_number l g ta ab sz ln kd2_2 bg2_3 nx2_4 ft2_5 fb 0 99 hln hq7_0 hq7_1 hq7_2 hq7_3) (cwV 2 hts (zgL (zl4 k445 k294 k295 k277) k273) rfl rfl rfl (by decide +kernel) ⟨Nat.le_of_ble_eq_true rfl, Nat.le_of_ble_eq_true rfl⟩) rfl rfl rfl rfl (Nat.le_of_ble_eq_true rfl) dX10_readShares_32 ⟨(Nat.le_of_ble_eq_true rfl), (Nat.le_of_ble_eq_true rfl)⟩ (fun u_ H locs hq16 hP hD hS => ?_)
    obtain ⟨kd2_11, bg2_12, nx2_13, ft2_14, q_15⟩ := u_
    replace hq16 : (0 ≤ nx2_13.toInt ∧ nx2_13.toInt ≤ 400) ∧ (0 ≤ bg2_12.toInt ∧ bg2_12.toInt ≤ 400) ∧ (zKd kd2_11.toInt bg2_12.toInt nx2_13.toInt) ∧ (-1 ≤ ft2_14.toInt) ∧ (zImp (¬ q_15.toInt = -1) ((0 : Int32).toInt ≤ q_15.toInt ∧ q_15.toInt ≤ (99 : Int32).toInt)) := hq16
    have hP : va_P g.1 vwCl (List.flatten [bTT g tt ta o, bTown g o a pe wo tx ch jo tr dy sd f, bTape g ta ab sz ln kd2_11 bg2_12 nx2_13 ft2_14 fb]) H := hP
    have hD : va_D A (List.flatten [bTT g tt ta o, bTown g o a pe wo tx ch jo tr dy sd f, bTape g ta ab sz ln kd2_11 bg2_12 nx2_13 ft2_14 fb]) := hD
    refine W.widen (k := 0) (n := 0) (Nat.le_of_ble_eq_true rfl) (Nat.le_of_ble_eq_true rfl) ?_
    refine W.eq (g2 := F0 m 35 ls [.int q_15]) rfl ?_
    obtain ⟨hq16_0, hq16_1, hq16_2, hq16_3, hq16_4⟩ := hq16
    refine lv_istore_n (lv' := [(2, .int q_15), (1, .int q_6), (0, .ref tt)]) hx hb dX10_readShares_35 rfl hl (by decide) rfl (fun ls hl => ?_)
    refine lv_iload_n hx hb dX10_readShares_36 rfl (lv_at hl 0 rfl) ?_
    refine lv_iconst (v := (-1)) hx hb dX10_readShares_37 (by decide) ?_
    refine lv_icmp_ne (tgt := 43) hx hb dX10_readShares_38 (by decide) (fun cb9 => ?_) (fun cb9 => ?_)
    · skip
      have c17 : ¬ q_15.toInt = (-1) := zne cb9 rfl (by decide)
      have w18 := hq16_4 c17
      have w19 : 0 ≤ q_15.toInt ∧ q_15.toInt ≤ 99 := by omega
      refine lv_aload_n hx hb dX10_readShares_43 rfl (lv_at hl 2 rfl) ?_
      refine va_get (D := g.1) (ci := 8) (v := .ref o) (C := RX10) (T := TX10) (N := 2) hx hb hts izRX10 hown hK hP 0 rfl rfl 1 (by decide) (hts _ k439) (fun _ h9 => h9) rfl dX10_readShares_44 ?_
      refine va_get (D := g.1) (ci := 7) (v := .ref (a 2)) (C := RX9) (T := TX9) (N := 19) hx hb hts izRX9 hown hK hP 1 rfl rfl 10 (by decide) (hts _ k467) (fun _ h9 => h9) rfl dX10_readShares_47 ?_
      refine lv_iload_n hx hb dX10_readShares_50 rfl (lv_at hl 1 rfl) ?_
      refine lv_iload_n hx hb dX10_readShares_51 rfl (lv_at hl 0 rfl) ?_
      refine va_iast hx hb hK hP hD hS 4 0 rfl rfl (zinK (a := 0) (b := 7) w10.1 w10.2 (by decide)) dX10_readShares_52 (fun H locs hP hD hS => ?_)
      obtain ⟨f20, rf20, hP, hD⟩ : ∃ f20 : Nat → Nat → Int32, zZ4 f20 ∧ va_P g.1 vwCl (List.flatten [bTT g tt ta o, bTown g o a pe wo tx ch jo tr dy sd f20, bTape g ta ab sz ln kd2_11 bg2_12 nx2_13 ft2_14 fb]) H ∧ va_D A (List.flatten [bTT g tt ta o, bTown g o a pe wo tx ch jo tr dy sd f20, bTape g ta ab sz ln kd2_11 bg2_12 nx2_13 ft2_14 fb]) := ⟨zu f 2 (upd (f 2) q_6.toNatClampNeg q_15), (zZ4_u rf (by decide)), hP, hD⟩
      refine lv_iconst (v := 1) hx hb dX10_readShares_53 (by decide) ?_
      have hP : va_P g.1 vwCl (List.flatten [bTT g tt ta o, bTown g o a pe wo tx ch jo tr dy sd f20, bTape g ta ab sz ln kd2_11 bg2_12 nx2_13 ft2_14 fb]) H := hP
      have hD : va_D A (List.flatten [bTT g tt ta o, bTown g o a pe wo tx ch jo tr dy sd f20, bTape g ta ab sz ln kd2_11 bg2_12 nx2_13 ft2_14 fb]) := hD
      obtain ⟨hP, hD⟩ := zord (g := g) (Bs' := [bTT g tt ta o, bTape g ta ab sz ln kd2_11 bg2_12 nx2_13 ft2_14 fb, bTown g o a pe wo tx ch jo tr dy sd f20]) [0, 2, 1] rfl rfl hP hD
      exact mret_z hx hb hr hlocks hS (Nat.le_of_ble_eq_true rfl) (Nat.le_of_ble_eq_true rfl) dX10_readShares_54 (kd2_11, bg2_12, nx2_13, ft2_14, f20, (1 : Int32)) rfl (by decide) (show (zZ4 f20) ∧ (-1 ≤ ft2_14.toInt) ∧ (0 ≤ nx2_13.toInt ∧ nx2_13.toInt ≤ 400) ∧ (0 ≤ bg2_12.toInt ∧ bg2_12.toInt ≤ 400) ∧ (zKd kd2_11.toInt bg2_12.toInt nx2_13.toInt) ∧ (1 = 0 ∨ 1 = 1) from ⟨rf20, hq16_3, hq16_0, hq16_1, hq16_2, (by decide)⟩) hP hD
    · skip
      have c21 : q_15.toInt = (-1) := zeq cb9 rfl (by decide)
      have n22 : q_15.toInt ≤ (-1) := Int.le_trans (Int.le_of_eq c21) (Int.le_refl _)
      refine lv_iconst (v := 0) hx hb dX10_readShares_41 (by decide) ?_
      have hP : va_P g.1 vwCl (List.flatten [bTT g tt ta o, bTown g o a pe wo tx ch jo tr dy sd f, bTape g ta ab sz ln kd2_11 bg2_12 nx2_13 ft2_14 fb]) H := hP
      have hD : va_D A (List.flatten [bTT g tt ta o, bTown g o a pe wo tx ch jo tr dy sd f, bTape g ta ab sz ln kd2_11 bg2_12 nx2_13 ft2_14 fb]) := hD
      obtain ⟨hP, hD⟩ := zord (g := g) (Bs' := [bTT g tt ta o, bTape g ta ab sz ln kd2_11 bg2_12 nx2_13 ft2_14 fb, bTown g o a pe wo tx ch jo tr dy sd f]) [0, 2, 1] rfl rfl hP hD
      exact mret_z hx hb hr hlocks hS (Nat.le_of_ble_eq_true rfl) (Nat.le_of_ble_eq_true rfl) dX10_readShares_42 (kd2_11, bg2_12, nx2_13, ft2_14, f, (0 : Int32)) rfl (by decide) (show (zZ4 f) ∧ (-1 ≤ ft2_14.toInt) ∧ (0 ≤ nx2_13.toInt ∧ nx2_13.toInt ≤ 400) ∧ (0 ≤ bg2_12.toInt ∧ bg2_12.toInt ≤ 400) ∧ (zKd kd2_11.toInt bg2_12.toInt nx2_13.toInt) ∧ (0 = 0 ∨ 0 = 1) from ⟨rf, hq16_3, hq16_0, hq16_1, hq16_2, (by decide)⟩) hP hD
  · skip
    have c23 : q_6.toInt = (-1) := zeq cb9 rfl (by decide)
    have n24 : q_6.toInt ≤ (-1) := Int.le_trans (Int.le_of_eq c23) (Int.le_refl _)
    refine lv_iconst (v := 0) hx hb dX10_readShares_23 (by decide) ?_
    have hP : va_P g.1 vwCl (List.flatten [bTT g tt ta o, bTown g o a pe wo tx ch jo tr dy sd f, bTape g ta ab sz ln kd2_2 bg2_3 nx2_4 ft2_5 fb]) H := hP
    have hD : va_D A (List.flatten [bTT g tt ta o, bTown g o a pe wo tx ch jo tr dy sd f, bTape g ta ab sz ln kd2_2 bg2_3 nx2_4 ft2_5 fb]) := hD
    obtain ⟨hP, hD⟩ := zord (g := g) (Bs' := [bTT g tt ta o, bTape g ta ab sz ln kd2_2 bg2_3 nx2_4 ft2_5 fb, bTown g o a pe wo tx ch jo tr dy sd f]) [0, 2, 1] rfl rfl hP hD
    exact mret_z hx hb hr hlocks hS (Nat.le_of_ble_eq_true rfl) (Nat.le_of_ble_eq_true rfl) dX10_readShares_24 (kd2_2, bg2_3, nx2_4, ft2_5, f, (0 : Int32)) rfl (by decide) (show (zZ4 f) ∧ (-1 ≤ ft2_5.toInt) ∧ (0 ≤ nx2_4.toInt ∧ nx2_4.toInt ≤ 400) ∧ (0 ≤ bg2_3.toInt ∧ bg2_3.toInt ≤ 400) ∧ (zKd kd2_2.toInt bg2_3.toInt nx2_4.toInt) ∧ (0 = 0 ∨ 0 = 1) from ⟨rf, hq7_3, hq7_0, hq7_1, hq7_2, (by decide)⟩) hP hD
set_option maxRecDepth 100000 in
set_option maxHeartbeats 4000000 in
theorem c_tt_readLine (l : Launch) (g : zG) (tt : Nat) (ta : Nat) (o : Nat) (ab : Nat) (sz : Int32) (ln : Int32) (kd : Int32) (bg : Int32) (nx : Int32) (ft : Int32) (fb : Nat → Int32) (a : Nat → Nat) (pe : Int32) (wo : Int32) (tx : Int32) (ch : Int32) (jo : Int32) (tr : Int32) (dy : Int32) (sd : Int32) (f : Nat → Nat → Int32) (b_pe : 0 ≤ pe.toInt ∧ pe.toInt ≤ 8) (b_wo : 0 ≤ wo.toInt ∧ wo.toInt ≤ 6) (rf : zZ4 f) (hln : 0 ≤ ln.toInt ∧ ln.toInt ≤ 400) (hnx : 0 ≤ nx.toInt ∧ nx.toInt ≤ 400) (hbg : 0 ≤ bg.toInt ∧ bg.toInt ≤ 400) (hkd : zKd kd.toInt bg.toInt nx.toInt) (hft : -1 ≤ ft.toInt) : zM' g l yX10_readLine (Cond.code yX10_readLine cX10_readLine 2 (some .boolean) :: zB) ({ frames := 8, cells := 0, slots := 0, locals := 172 } : Room) [.ref tt] [bTT g tt ta o, bTape g ta ab sz ln kd bg nx ft fb, bTown g o a pe wo tx ch jo tr dy sd f] (fun u : Int32 × Int32 × Int32 × Int32 × Int32 × Int32 × Int32 × Int32 × Int32 × Int32 × (Nat → Nat → Int32) × Int32 => (fun (kd2 : Int32) (bg2 : Int32) (nx2 : Int32) (ft2 : Int32) (pe2 : Int32) (wo2 : Int32) (ch2 : Int32) (jo2 : Int32) (tr2 : Int32) (dy2 : Int32) (f2 : Nat → Nat → Int32) (q : Int32) => some (.int q)) (u.1) (u.2.1) (u.2.2.1) (u.2.2.2.1) (u.2.2.2.2.1) (u.2.2.2.2.2.1) (u.2.2.2.2.2.2.1) (u.2.2.2.2.2.2.2.1) (u.2.2.2.2.2.2.2.2.1) (u.2.2.2.2.2.2.2.2.2.1) (u.2.2.2.2.2.2.2.2.2.2.1) (u.2.2.2.2.2.2.2.2.2.2.2)) (fun u : Int32 × Int32 × Int32 × Int32 × Int32 × Int32 × Int32 × Int32 × Int32 × Int32 × (Nat → Nat → Int32) × Int32 => (fun (kd2 : Int32) (bg2 : Int32) (nx2 : Int32) (ft2 : Int32) (pe2 : Int32) (wo2 : Int32) (ch2 : Int32) (jo2 : Int32) (tr2 : Int32) (dy2 : Int32) (f2 : Nat → Nat → Int32) (q : Int32) => (0 ≤ pe2.toInt ∧ pe2.toInt ≤ 8) ∧ (0 ≤ wo2.toInt ∧ wo2.toInt ≤ 6) ∧ (zZ4 f2) ∧ (-1 ≤ ft2.toInt) ∧ (0 ≤ nx2.toInt ∧ nx2.toInt ≤ 400) ∧ (0 ≤ bg2.toInt ∧ bg2.toInt ≤ 400) ∧ (zKd kd2.toInt bg2.toInt nx2.toInt) ∧ (q = 0 ∨ q = 1)) (u.1) (u.2.1) (u.2.2.1) (u.2.2.2.1) (u.2.2.2.2.1) (u.2.2.2.2.2.1) (u.2.2.2.2.2.2.1) (u.2.2.2.2.2.2.2.1) (u.2.2.2.2.2.2.2.2.1) (u.2.2.2.2.2.2.2.2.2.1) (u.2.2.2.2.2.2.2.2.2.2.1) (u.2.2.2.2.2.2.2.2.2.2.2)) (fun u : Int32 × Int32 × Int32 × Int32 × Int32 × Int32 × Int32 × Int32 × Int32 × Int32 × (Nat → Nat → Int32) × Int32 => (fun (kd2 : Int32) (bg2 : Int32) (nx2 : Int32) (ft2 : Int32) (pe2 : Int32) (wo2 : Int32) (ch2 : Int32) (jo2 : Int32) (tr2 : Int32) (dy2 : Int32) (f2 : Nat → Nat → Int32) (q : Int32) => [bTT g tt ta o, bTape g ta ab sz ln kd2 bg2 nx2 ft2 fb, bTown g o a pe2 wo2 tx ch2 jo2 tr2 dy2 sd f2]) (u.1) (u.2.1) (u.2.2.1) (u.2.2.2.1) (u.2.2.2.2.1) (u.2.2.2.2.2.1) (u.2.2.2.2.2.2.1) (u.2.2.2.2.2.2.2.1) (u.2.2.2.2.2.2.2.2.1) (u.2.2.2.2.2.2.2.2.2.1) (u.2.2.2.2.2.2.2.2.2.2.1) (u.2.2.2.2.2.2.2.2.2.2.2)) := by
  refine zM'.of (cc := cX10_readLine) (maxL := 2) (rt := (some .boolean)) (by decide) rfl (Nat.le_of_ble_eq_true rfl) ?_
  intro p e s m args below meth c A ls St hr hlocks hin hK hT hA hP hD hS hl
  obtain ⟨hx, hb, hml, hown, hts⟩ := id St
  have hl : lv_has ls 2 [(0, .ref tt)] := hl
  refine lv_aload_n hx hb dX10_readLine_0 rfl (lv_at hl 0 rfl) ?_
  refine va_get (D := g.1) (ci := 8) (v := .ref ta) (C := RX10) (T := TX10) (N := 2) hx hb hts izRX10 hown hK hP 0 rfl rfl 0 (by decide) (hts _ k441) (fun x9 h9 => u_same (hts _ k442) x9 h9) rfl dX10_readLine_1 ?_
  refine va_ldcS (q := g.2 38) hx hb hown (zra14 hT.2.1) dX10_readLine_4 ?_
  refine mcallV' (g := g) (q0 := 0) (ci := 6) (As := [.ref (g.2 38)]) (rest := []) St hK hT hA hP hD hS hl.1 [1] [0, 2] rfl rfl rfl (c_t_isWord l g ta ab sz ln kd bg nx ft fb (g.2 38) 14 zqa14 hln hnx hbg hkd hft rfl zla14 zna14) (cwV 1 hts (zgL (zl4 k472 k282 k283 k277) k268) rfl rfl rfl (by decide +kernel) ⟨Nat.le_of_ble_eq_true rfl, Nat.le_of_ble_eq_true rfl⟩) rfl rfl rfl rfl (Nat.le_of_ble_eq_true rfl) dX10_readLine_6 ⟨(Nat.le_of_ble_eq_true rfl), (Nat.le_of_ble_eq_true rfl)⟩ (fun r_1 H locs hq2 hP hD hS => ?_)
  replace hq2 : (r_1 = 0 ∨ r_1 = 1) := hq2
  have hP : va_P g.1 vwCl (List.flatten [bTT g tt ta o, bTown g o a pe wo tx ch jo tr dy sd f, bTape g ta ab sz ln kd bg nx ft fb]) H := hP
  have hD : va_D A (List.flatten [bTT g tt ta o, bTown g o a pe wo tx ch jo tr dy sd f, bTape g ta ab sz ln kd bg nx ft fb]) := hD
  refine W.widen (k := 0) (n := 0) (Nat.le_of_ble_eq_true rfl) (Nat.le_of_ble_eq_true rfl) ?_
  refine W.eq (g2 := F0 m 9 ls [.int r_1]) rfl ?_
  rcases hq2 with rfl | rfl
  · skip
    refine lv_if_eq (tgt := 17) hx hb dX10_readLine_9 (by decide) (fun _ => ?_) (fun c3 => absurd (by decide) c3)
    refine lv_aload_n hx hb dX10_readLine_17 rfl (lv_at hl 0 rfl) ?_
    refine va_get (D := g.1) (ci := 8) (v := .ref ta) (C := RX10) (T := TX10) (N := 2) hx hb hts izRX10 hown hK hP 0 rfl rfl 0 (by decide) (hts _ k441) (fun x9 h9 => u_same (hts _ k442) x9 h9) rfl dX10_readLine_18 ?_
    refine va_ldcS (q := g.2 40) hx hb hown (zra15 hT.2.1) dX10_readLine_21 ?_
    refine mcallV' (g := g) (q0 := 0) (ci := 6) (As := [.ref (g.2 40)]) (rest := []) St hK hT hA hP hD hS hl.1 [2] [0, 1] rfl rfl rfl (c_t_isWord l g ta ab sz ln kd bg nx ft fb (g.2 40) 15 zqa15 hln hnx hbg hkd hft rfl zla15 zna15) (cwV 1 hts (zgL (zl4 k472 k282 k283 k277) k268) rfl rfl rfl (by decide +kernel) ⟨Nat.le_of_ble_eq_true rfl, Nat.le_of_ble_eq_true rfl⟩) rfl rfl rfl rfl (Nat.le_of_ble_eq_true rfl) dX10_readLine_23 ⟨(Nat.le_of_ble_eq_true rfl), (Nat.le_of_ble_eq_true rfl)⟩ (fun r_4 H locs hq5 hP hD hS => ?_)
    replace hq5 : (r_4 = 0 ∨ r_4 = 1) := hq5
    have hP : va_P g.1 vwCl (List.flatten [bTT g tt ta o, bTown g o a pe wo tx ch jo tr dy sd f, bTape g ta ab sz ln kd bg nx ft fb]) H := hP
    have hD : va_D A (List.flatten [bTT g tt ta o, bTown g o a pe wo tx ch jo tr dy sd f, bTape g ta ab sz ln kd bg nx ft fb]) := hD
    refine W.widen (k := 0) (n := 0) (Nat.le_of_ble_eq_true rfl) (Nat.le_of_ble_eq_true rfl) ?_
    refine W.eq (g2 := F0 m 26 ls [.int r_4]) rfl ?_
    rcases hq5 with rfl | rfl
    · skip
      refine lv_if_eq (tgt := 34) hx hb dX10_readLine_26 (by decide) (fun _ => ?_) (fun c6 => absurd (by decide) c6)
      refine lv_aload_n hx hb dX10_readLine_34 rfl (lv_at hl 0 rfl) ?_
      refine va_get (D := g.1) (ci := 8) (v := .ref ta) (C := RX10) (T := TX10) (N := 2) hx hb hts izRX10 hown hK hP 0 rfl rfl 0 (by decide) (hts _ k441) (fun x9 h9 => u_same (hts _ k442) x9 h9) rfl dX10_readLine_35 ?_
      refine va_ldcS (q := g.2 42) hx hb hown (zra16 hT.2.1) dX10_readLine_38 ?_
      refine mcallV' (g := g) (q0 := 0) (ci := 6) (As := [.ref (g.2 42)]) (rest := []) St hK hT hA hP hD hS hl.1 [2] [0, 1] rfl rfl rfl (c_t_takeWord l g ta ab sz ln kd bg nx ft fb (g.2 42) 16 zqa16 hln hnx hbg hkd hft rfl zla16 zna16) (cwV 1 hts (zgL (zl4 k449 k311 k312 k277) k284) rfl rfl rfl (by decide +kernel) ⟨Nat.le_of_ble_eq_true rfl, Nat.le_of_ble_eq_true rfl⟩) rfl rfl rfl rfl (Nat.le_of_ble_eq_true rfl) dX10_readLine_40 ⟨(Nat.le_of_ble_eq_true rfl), (Nat.le_of_ble_eq_true rfl)⟩ (fun u_ H locs hq11 hP hD hS => ?_)
      obtain ⟨kd2_7, bg2_8, nx2_9, r_10⟩ := u_
      replace hq11 : (0 ≤ nx2_9.toInt ∧ nx2_9.toInt ≤ 400) ∧ (0 ≤ bg2_8.toInt ∧ bg2_8.toInt ≤ 400) ∧ (zKd kd2_7.toInt bg2_8.toInt nx2_9.toInt) ∧ (r_10 = 0 ∨ r_10 = 1) := hq11
      have hP : va_P g.1 vwCl (List.flatten [bTT g tt ta o, bTown g o a pe wo tx ch jo tr dy sd f, bTape g ta ab sz ln kd2_7 bg2_8 nx2_9 ft fb]) H := hP
      have hD : va_D A (List.flatten [bTT g tt ta o, bTown g o a pe wo tx ch jo tr dy sd f, bTape g ta ab sz ln kd2_7 bg2_8 nx2_9 ft fb]) := hD
      refine W.widen (k := 0) (n := 0) (Nat.le_of_ble_eq_true rfl) (Nat.le_of_ble_eq_true rfl) ?_
      refine W.eq (g2 := F0 m 43 ls [.int r_10]) rfl ?_
      obtain ⟨hq11_0, hq11_1, hq11_2, hq11_3⟩ := hq11
      rcases hq11_3 with rfl | rfl
      · skip
        refine lv_if_eq (tgt := 51) hx hb dX10_readLine_43 (by decide) (fun _ => ?_) (fun c12 => absurd (by decide) c12)
        refine lv_aload_n hx hb dX10_readLine_51 rfl (lv_at hl 0 rfl) ?_
        refine va_get (D := g.1) (ci := 8) (v := .ref ta) (C := RX10) (T := TX10) (N := 2) hx hb hts izRX10 hown hK hP 0 rfl rfl 0 (by decide) (hts _ k441) (fun x9 h9 => u_same (hts _ k442) x9 h9) rfl dX10_readLine_52 ?_
        refine va_ldcS (q := g.2 44) hx hb hown (zra17 hT.2.1) dX10_readLine_55 ?_
        refine mcallV' (g := g) (q0 := 0) (ci := 6) (As := [.ref (g.2 44)]) (rest := []) St hK hT hA hP hD hS hl.1 [2] [0, 1] rfl rfl rfl (c_t_takeWord l g ta ab sz ln kd2_7 bg2_8 nx2_9 ft fb (g.2 44) 17 zqa17 hln hq11_0 hq11_1 hq11_2 hft rfl zla17 zna17) (cwV 1 hts (zgL (zl4 k449 k311 k312 k277) k284) rfl rfl rfl (by decide +kernel) ⟨Nat.le_of_ble_eq_true rfl, Nat.le_of_ble_eq_true rfl⟩) rfl rfl rfl rfl (Nat.le_of_ble_eq_true rfl) dX10_readLine_57 ⟨(Nat.le_of_ble_eq_true rfl), (Nat.le_of_ble_eq_true rfl)⟩ (fun u_ H locs hq17 hP hD hS => ?_)
        obtain ⟨kd2_13, bg2_14, nx2_15, r_16⟩ := u_
        replace hq17 : (0 ≤ nx2_15.toInt ∧ nx2_15.toInt ≤ 400) ∧ (0 ≤ bg2_14.toInt ∧ bg2_14.toInt ≤ 400) ∧ (zKd kd2_13.toInt bg2_14.toInt nx2_15.toInt) ∧ (r_16 = 0 ∨ r_16 = 1) := hq17
        have hP : va_P g.1 vwCl (List.flatten [bTT g tt ta o, bTown g o a pe wo tx ch jo tr dy sd f, bTape g ta ab sz ln kd2_13 bg2_14 nx2_15 ft fb]) H := hP
        have hD : va_D A (List.flatten [bTT g tt ta o, bTown g o a pe wo tx ch jo tr dy sd f, bTape g ta ab sz ln kd2_13 bg2_14 nx2_15 ft fb]) := hD
        refine W.widen (k := 0) (n := 0) (Nat.le_of_ble_eq_true rfl) (Nat.le_of_ble_eq_true rfl) ?_
        refine W.eq (g2 := F0 m 60 ls [.int r_16]) rfl ?_
        obtain ⟨hq17_0, hq17_1, hq17_2, hq17_3⟩ := hq17
        rcases hq17_3 with rfl | rfl
        · skip
          refine lv_if_eq (tgt := 68) hx hb dX10_readLine_60 (by decide) (fun _ => ?_) (fun c18 => absurd (by decide) c18)
          refine lv_aload_n hx hb dX10_readLine_68 rfl (lv_at hl 0 rfl) ?_
          refine va_get (D := g.1) (ci := 8) (v := .ref ta) (C := RX10) (T := TX10) (N := 2) hx hb hts izRX10 hown hK hP 0 rfl rfl 0 (by decide) (hts _ k441) (fun x9 h9 => u_same (hts _ k442) x9 h9) rfl dX10_readLine_69 ?_
          refine va_ldcS (q := g.2 46) hx hb hown (zra18 hT.2.1) dX10_readLine_72 ?_
          refine mcallV' (g := g) (q0 := 0) (ci := 6) (As := [.ref (g.2 46)]) (rest := []) St hK hT hA hP hD hS hl.1 [2] [0, 1] rfl rfl rfl (c_t_takeWord l g ta ab sz ln kd2_13 bg2_14 nx2_15 ft fb (g.2 46) 18 zqa18 hln hq17_0 hq17_1 hq17_2 hft rfl zla18 zna18) (cwV 1 hts (zgL (zl4 k449 k311 k312 k277) k284) rfl rfl rfl (by decide +kernel) ⟨Nat.le_of_ble_eq_true rfl, Nat.le_of_ble_eq_true rfl⟩) rfl rfl rfl rfl (Nat.le_of_ble_eq_true rfl) dX10_readLine_74 ⟨(Nat.le_of_ble_eq_true rfl), (Nat.le_of_ble_eq_true rfl)⟩ (fun u_ H locs hq23 hP hD hS => ?_)
          obtain ⟨kd2_19, bg2_20, nx2_21, r_22⟩ := u_
          replace hq23 : (0 ≤ nx2_21.toInt ∧ nx2_21.toInt ≤ 400) ∧ (0 ≤ bg2_20.toInt ∧ bg2_20.toInt ≤ 400) ∧ (zKd kd2_19.toInt bg2_20.toInt nx2_21.toInt) ∧ (r_22 = 0 ∨ r_22 = 1) := hq23
          have hP : va_P g.1 vwCl (List.flatten [bTT g tt ta o, bTown g o a pe wo tx ch jo tr dy sd f, bTape g ta ab sz ln kd2_19 bg2_20 nx2_21 ft fb]) H := hP
          have hD : va_D A (List.flatten [bTT g tt ta o, bTown g o a pe wo tx ch jo tr dy sd f, bTape g ta ab sz ln kd2_19 bg2_20 nx2_21 ft fb]) := hD
          refine W.widen (k := 0) (n := 0) (Nat.le_of_ble_eq_true rfl) (Nat.le_of_ble_eq_true rfl) ?_
          refine W.eq (g2 := F0 m 77 ls [.int r_22]) rfl ?_
          obtain ⟨hq23_0, hq23_1, hq23_2, hq23_3⟩ := hq23
          rcases hq23_3 with rfl | rfl
          · skip
            refine lv_if_eq (tgt := 111) hx hb dX10_readLine_77 (by decide) (fun _ => ?_) (fun c24 => absurd (by decide) c24)
            refine lv_aload_n hx hb dX10_readLine_111 rfl (lv_at hl 0 rfl) ?_
            refine va_get (D := g.1) (ci := 8) (v := .ref ta) (C := RX10) (T := TX10) (N := 2) hx hb hts izRX10 hown hK hP 0 rfl rfl 0 (by decide) (hts _ k441) (fun x9 h9 => u_same (hts _ k442) x9 h9) rfl dX10_readLine_112 ?_
            refine va_ldcS (q := g.2 48) hx hb hown (zra19 hT.2.1) dX10_readLine_115 ?_
            refine mcallV' (g := g) (q0 := 0) (ci := 6) (As := [.ref (g.2 48)]) (rest := []) St hK hT hA hP hD hS hl.1 [2] [0, 1] rfl rfl rfl (c_t_takeWord l g ta ab sz ln kd2_19 bg2_20 nx2_21 ft fb (g.2 48) 19 zqa19 hln hq23_0 hq23_1 hq23_2 hft rfl zla19 zna19) (cwV 1 hts (zgL (zl4 k449 k311 k312 k277) k284) rfl rfl rfl (by decide +kernel) ⟨Nat.le_of_ble_eq_true rfl, Nat.le_of_ble_eq_true rfl⟩) rfl rfl rfl rfl (Nat.le_of_ble_eq_true rfl) dX10_readLine_117 ⟨(Nat.le_of_ble_eq_true rfl), (Nat.le_of_ble_eq_true rfl)⟩ (fun u_ H locs hq29 hP hD hS => ?_)
            obtain ⟨kd2_25, bg2_26, nx2_27, r_28⟩ := u_
            replace hq29 : (0 ≤ nx2_27.toInt ∧ nx2_27.toInt ≤ 400) ∧ (0 ≤ bg2_26.toInt ∧ bg2_26.toInt ≤ 400) ∧ (zKd kd2_25.toInt bg2_26.toInt nx2_27.toInt) ∧ (r_28 = 0 ∨ r_28 = 1) := hq29
            have hP : va_P g.1 vwCl (List.flatten [bTT g tt ta o, bTown g o a pe wo tx ch jo tr dy sd f, bTape g ta ab sz ln kd2_25 bg2_26 nx2_27 ft fb]) H := hP
            have hD : va_D A (List.flatten [bTT g tt ta o, bTown g o a pe wo tx ch jo tr dy sd f, bTape g ta ab sz ln kd2_25 bg2_26 nx2_27 ft fb]) := hD
            refine W.widen (k := 0) (n := 0) (Nat.le_of_ble_eq_true rfl) (Nat.le_of_ble_eq_true rfl) ?_
            refine W.eq (g2 := F0 m 120 ls [.int r_28]) rfl ?_
            obtain ⟨hq29_0, hq29_1, hq29_2, hq29_3⟩ := hq29
            rcases hq29_3 with rfl | rfl
            · skip
              refine lv_if_eq (tgt := 153) hx hb dX10_readLine_120 (by decide) (fun _ => ?_) (fun c30 => absurd (by decide) c30)
              refine lv_aload_n hx hb dX10_readLine_153 rfl (lv_at hl 0 rfl) ?_
              refine va_get (D := g.1) (ci := 8) (v := .ref ta) (C := RX10) (T := TX10) (N := 2) hx hb hts izRX10 hown hK hP 0 rfl rfl 0 (by decide) (hts _ k441) (fun x9 h9 => u_same (hts _ k442) x9 h9) rfl dX10_readLine_154 ?_
              refine va_ldcS (q := g.2 50) hx hb hown (zra20 hT.2.1) dX10_readLine_157 ?_
              refine mcallV' (g := g) (q0 := 0) (ci := 6) (As := [.ref (g.2 50)]) (rest := []) St hK hT hA hP hD hS hl.1 [2] [0, 1] rfl rfl rfl (c_t_takeWord l g ta ab sz ln kd2_25 bg2_26 nx2_27 ft fb (g.2 50) 20 zqa20 hln hq29_0 hq29_1 hq29_2 hft rfl zla20 zna20) (cwV 1 hts (zgL (zl4 k449 k311 k312 k277) k284) rfl rfl rfl (by decide +kernel) ⟨Nat.le_of_ble_eq_true rfl, Nat.le_of_ble_eq_true rfl⟩) rfl rfl rfl rfl (Nat.le_of_ble_eq_true rfl) dX10_readLine_159 ⟨(Nat.le_of_ble_eq_true rfl), (Nat.le_of_ble_eq_true rfl)⟩ (fun u_ H locs hq35 hP hD hS => ?_)
              obtain ⟨kd2_31, bg2_32, nx2_33, r_34⟩ := u_
              replace hq35 : (0 ≤ nx2_33.toInt ∧ nx2_33.toInt ≤ 400) ∧ (0 ≤ bg2_32.toInt ∧ bg2_32.toInt ≤ 400) ∧ (zKd kd2_31.toInt bg2_32.toInt nx2_33.toInt) ∧ (r_34 = 0 ∨ r_34 = 1) := hq35
              have hP : va_P g.1 vwCl (List.flatten [bTT g tt ta o, bTown g o a pe wo tx ch jo tr dy sd f, bTape g ta ab sz ln kd2_31 bg2_32 nx2_33 ft fb]) H := hP
              have hD : va_D A (List.flatten [bTT g tt ta o, bTown g o a pe wo tx ch jo tr dy sd f, bTape g ta ab sz ln kd2_31 bg2_32 nx2_33 ft fb]) := hD
              refine W.widen (k := 0) (n := 0) (Nat.le_of_ble_eq_true rfl) (Nat.le_of_ble_eq_true rfl) ?_
              refine W.eq (g2 := F0 m 162 ls [.int r_34]) rfl ?_
              obtain ⟨hq35_0, hq35_1, hq35_2, hq35_3⟩ := hq35
              rcases hq35_3 with rfl | rfl
              · skip
                refine lv_if_eq (tgt := 195) hx hb dX10_readLine_162 (by decide) (fun _ => ?_) (fun c36 => absurd (by decide) c36)
                refine lv_aload_n hx hb dX10_readLine_195 rfl (lv_at hl 0 rfl) ?_
                refine va_get (D := g.1) (ci := 8) (v := .ref ta) (C := RX10) (T := TX10) (N := 2) hx hb hts izRX10 hown hK hP 0 rfl rfl 0 (by decide) (hts _ k441) (fun x9 h9 => u_same (hts _ k442) x9 h9) rfl dX10_readLine_196 ?_
                refine va_ldcS (q := g.2 52) hx hb hown (zra21 hT.2.1) dX10_readLine_199 ?_
                refine mcallV' (g := g) (q0 := 0) (ci := 6) (As := [.ref (g.2 52)]) (rest := []) St hK hT hA hP hD hS hl.1 [2] [0, 1] rfl rfl rfl (c_t_takeWord l g ta ab sz ln kd2_31 bg2_32 nx2_33 ft fb (g.2 52) 21 zqa21 hln hq35_0 hq35_1 hq35_2 hft rfl zla21 zna21) (cwV 1 hts (zgL (zl4 k449 k311 k312 k277) k284) rfl rfl rfl (by decide +kernel) ⟨Nat.le_of_ble_eq_true rfl, Nat.le_of_ble_eq_true rfl⟩) rfl rfl rfl rfl (Nat.le_of_ble_eq_true rfl) dX10_readLine_201 ⟨(Nat.le_of_ble_eq_true rfl), (Nat.le_of_ble_eq_true rfl)⟩ (fun u_ H locs hq41 hP hD hS => ?_)
                obtain ⟨kd2_37, bg2_38, nx2_39, r_40⟩ := u_
                replace hq41 : (0 ≤ nx2_39.toInt ∧ nx2_39.toInt ≤ 400) ∧ (0 ≤ bg2_38.toInt ∧ bg2_38.toInt ≤ 400) ∧ (zKd kd2_37.toInt bg2_38.toInt nx2_39.toInt) ∧ (r_40 = 0 ∨ r_40 = 1) := hq41
                have hP : va_P g.1 vwCl (List.flatten [bTT g tt ta o, bTown g o a pe wo tx ch jo tr dy sd f, bTape g ta ab sz ln kd2_37 bg2_38 nx2_39 ft fb]) H := hP
                have hD : va_D A (List.flatten [bTT g tt ta o, bTown g o a pe wo tx ch jo tr dy sd f, bTape g ta ab sz ln kd2_37 bg2_38 nx2_39 ft fb]) := hD
                refine W.widen (k := 0) (n := 0) (Nat.le_of_ble_eq_true rfl) (Nat.le_of_ble_eq_true rfl) ?_
                refine W.eq (g2 := F0 m 204 ls [.int r_40]) rfl ?_
                obtain ⟨hq41_0, hq41_1, hq41_2, hq41_3⟩ := hq41
                rcases hq41_3 with rfl | rfl
                · skip
                  refine lv_if_eq (tgt := 238) hx hb dX10_readLine_204 (by decide) (fun _ => ?_) (fun c42 => absurd (by decide) c42)
                  refine lv_aload_n hx hb dX10_readLine_238 rfl (lv_at hl 0 rfl) ?_
                  refine va_get (D := g.1) (ci := 8) (v := .ref ta) (C := RX10) (T := TX10) (N := 2) hx hb hts izRX10 hown hK hP 0 rfl rfl 0 (by decide) (hts _ k441) (fun x9 h9 => u_same (hts _ k442) x9 h9) rfl dX10_readLine_239 ?_
                  refine mcallV' (g := g) (q0 := 0) (ci := 6) (As := []) (rest := []) St hK hT hA hP hD hS hl.1 [2] [0, 1] rfl rfl rfl (c_t_refuse l g ta ab sz ln kd2_37 bg2_38 nx2_39 ft fb hln hq41_0 hq41_1 hq41_2 hft) (cwV 0 hts (zgL (zl4 k443 k279 k280 k277) k269) rfl rfl rfl (by decide +kernel) ⟨Nat.le_of_ble_eq_true rfl, Nat.le_of_ble_eq_true rfl⟩) rfl rfl rfl rfl (Nat.le_of_ble_eq_true rfl) dX10_readLine_242 ⟨(Nat.le_of_ble_eq_true rfl), (Nat.le_of_ble_eq_true rfl)⟩ (fun ft2_43 H locs hq44 hP hD hS => ?_)
                  replace hq44 : (-1 ≤ ft2_43.toInt) := hq44
                  have hP : va_P g.1 vwCl (List.flatten [bTT g tt ta o, bTown g o a pe wo tx ch jo tr dy sd f, bTape g ta ab sz ln kd2_37 bg2_38 nx2_39 ft2_43 fb]) H := hP
                  have hD : va_D A (List.flatten [bTT g tt ta o, bTown g o a pe wo tx ch jo tr dy sd f, bTape g ta ab sz ln kd2_37 bg2_38 nx2_39 ft2_43 fb]) := hD
                  refine W.widen (k := 0) (n := 0) (Nat.le_of_ble_eq_true rfl) (Nat.le_of_ble_eq_true rfl) ?_
                  refine W.eq (g2 := F0 m 245 ls [.int 0]) rfl ?_
                  have hP : va_P g.1 vwCl (List.flatten [bTT g tt ta o, bTown g o a pe wo tx ch jo tr dy sd f, bTape g ta ab sz ln kd2_37 bg2_38 nx2_39 ft2_43 fb]) H := hP
                  have hD : va_D A (List.flatten [bTT g tt ta o, bTown g o a pe wo tx ch jo tr dy sd f, bTape g ta ab sz ln kd2_37 bg2_38 nx2_39 ft2_43 fb]) := hD
                  obtain ⟨hP, hD⟩ := zord (g := g) (Bs' := [bTT g tt ta o, bTape g ta ab sz ln kd2_37 bg2_38 nx2_39 ft2_43 fb, bTown g o a pe wo tx ch jo tr dy sd f]) [0, 2, 1] rfl rfl hP hD
                  exact mret_z hx hb hr hlocks hS (Nat.le_of_ble_eq_true rfl) (Nat.le_of_ble_eq_true rfl) dX10_readLine_245 (kd2_37, bg2_38, nx2_39, ft2_43, pe, wo, ch, jo, tr, dy, f, (0 : Int32)) rfl (by decide) (show (0 ≤ pe.toInt ∧ pe.toInt ≤ 8) ∧ (0 ≤ wo.toInt ∧ wo.toInt ≤ 6) ∧ (zZ4 f) ∧ (-1 ≤ ft2_43.toInt) ∧ (0 ≤ nx2_39.toInt ∧ nx2_39.toInt ≤ 400) ∧ (0 ≤ bg2_38.toInt ∧ bg2_38.toInt ≤ 400) ∧ (zKd kd2_37.toInt bg2_38.toInt nx2_39.toInt) ∧ (0 = 0 ∨ 0 = 1) from ⟨b_pe, b_wo, rf, hq44, hq41_0, hq41_1, hq41_2, (by decide)⟩) hP hD
                · skip
                  refine lv_if_eq (tgt := 238) hx hb dX10_readLine_204 (by decide) (fun c45 => absurd c45 (by decide)) (fun _ => ?_)
                  refine lv_aload_n hx hb dX10_readLine_207 rfl (lv_at hl 0 rfl) ?_
                  refine va_get (D := g.1) (ci := 8) (v := .ref ta) (C := RX10) (T := TX10) (N := 2) hx hb hts izRX10 hown hK hP 0 rfl rfl 0 (by decide) (hts _ k441) (fun x9 h9 => u_same (hts _ k442) x9 h9) rfl dX10_readLine_208 ?_
                  refine lv_iconst (v := 0) hx hb dX10_readLine_211 (by decide) ?_
                  refine lv_sipush (v := 999) hx hb dX10_readLine_212 (by decide) ?_
                  have hL0 : (0 : Int32).toInt = 0 := by decide
                  have hL999 : (999 : Int32).toInt = 999 := by decide
                  refine mcallV' (g := g) (q0 := 0) (ci := 6) (As := [.int 0, .int 999]) (rest := []) St hK hT hA hP hD hS hl.1 [2] [0, 1] rfl rfl rfl (c_t_number l g ta ab sz ln kd2_37 bg2_38 nx2_39 ft fb 0 999 hln hq41_0 hq41_1 hq41_2 hft) (cwV 2 hts (zgL (zl4 k445 k294 k295 k277) k273) rfl rfl rfl (by decide +kernel) ⟨Nat.le_of_ble_eq_true rfl, Nat.le_of_ble_eq_true rfl⟩) rfl rfl rfl rfl (Nat.le_of_ble_eq_true rfl) dX10_readLine_215 ⟨(Nat.le_of_ble_eq_true rfl), (Nat.le_of_ble_eq_true rfl)⟩ (fun u_ H locs hq51 hP hD hS => ?_)
                  obtain ⟨kd2_46, bg2_47, nx2_48, ft2_49, q_50⟩ := u_
                  replace hq51 : (0 ≤ nx2_48.toInt ∧ nx2_48.toInt ≤ 400) ∧ (0 ≤ bg2_47.toInt ∧ bg2_47.toInt ≤ 400) ∧ (zKd kd2_46.toInt bg2_47.toInt nx2_48.toInt) ∧ (-1 ≤ ft2_49.toInt) ∧ (zImp (¬ q_50.toInt = -1) ((0 : Int32).toInt ≤ q_50.toInt ∧ q_50.toInt ≤ (999 : Int32).toInt)) := hq51
                  have hP : va_P g.1 vwCl (List.flatten [bTT g tt ta o, bTown g o a pe wo tx ch jo tr dy sd f, bTape g ta ab sz ln kd2_46 bg2_47 nx2_48 ft2_49 fb]) H := hP
                  have hD : va_D A (List.flatten [bTT g tt ta o, bTown g o a pe wo tx ch jo tr dy sd f, bTape g ta ab sz ln kd2_46 bg2_47 nx2_48 ft2_49 fb]) := hD
                  refine W.widen (k := 0) (n := 0) (Nat.le_of_ble_eq_true rfl) (Nat.le_of_ble_eq_true rfl) ?_
                  refine W.eq (g2 := F0 m 218 ls [.int q_50]) rfl ?_
                  obtain ⟨hq51_0, hq51_1, hq51_2, hq51_3, hq51_4⟩ := hq51
                  refine lv_istore_n (lv' := [(1, .int q_50), (0, .ref tt)]) hx hb dX10_readLine_218 rfl hl (by decide) rfl (fun ls hl => ?_)
                  refine lv_aload_n hx hb dX10_readLine_219 rfl (lv_at hl 1 rfl) ?_
                  refine va_get (D := g.1) (ci := 8) (v := .ref o) (C := RX10) (T := TX10) (N := 2) hx hb hts izRX10 hown hK hP 0 rfl rfl 1 (by decide) (hts _ k439) (fun _ h9 => h9) rfl dX10_readLine_220 ?_
                  refine lv_iload_n hx hb dX10_readLine_223 rfl (lv_at hl 0 rfl) ?_
                  refine va_put (D := g.1) (ci := 7) (v := .int q_50) (ty := .int) (C := RX9) (T := TX9) (N := 19) hx hb hts izRX9 tyX9 tyX9_ok nmX9 hown hK hP hD hS 1 rfl rfl 6 (by decide) (hts _ k471) (fun _ h9 => h9) rfl (by decide +kernel) rfl rfl (Nat.le_of_ble_eq_true rfl) dX10_readLine_224 (fun H locs hP hD hS => ?_)
                  have hP : va_P g.1 vwCl (List.flatten [bTT g tt ta o, bTown g o a pe wo tx ch jo tr q_50 sd f, bTape g ta ab sz ln kd2_46 bg2_47 nx2_48 ft2_49 fb]) H := hP
                  have hD : va_D A (List.flatten [bTT g tt ta o, bTown g o a pe wo tx ch jo tr q_50 sd f, bTape g ta ab sz ln kd2_46 bg2_47 nx2_48 ft2_49 fb]) := hD
                  refine lv_iload_n hx hb dX10_readLine_227 rfl (lv_at hl 0 rfl) ?_
                  refine lv_iconst (v := (-1)) hx hb dX10_readLine_228 (by decide) ?_
                  refine lv_icmp_eq (tgt := 236) hx hb dX10_readLine_229 (by decide) (fun cb9 => ?_) (fun cb9 => ?_)
                  · skip
                    have c52 : q_50.toInt = (-1) := zeq cb9 rfl (by decide)
                    have n53 : q_50.toInt ≤ (-1) := Int.le_trans (Int.le_of_eq c52) (Int.le_refl _)
                    refine lv_iconst (v := 0) hx hb dX10_readLine_236 (by decide) ?_
                    have hP : va_P g.1 vwCl (List.flatten [bTT g tt ta o, bTown g o a pe wo tx ch jo tr q_50 sd f, bTape g ta ab sz ln kd2_46 bg2_47 nx2_48 ft2_49 fb]) H := hP
                    have hD : va_D A (List.flatten [bTT g tt ta o, bTown g o a pe wo tx ch jo tr q_50 sd f, bTape g ta ab sz ln kd2_46 bg2_47 nx2_48 ft2_49 fb]) := hD
                    obtain ⟨hP, hD⟩ := zord (g := g) (Bs' := [bTT g tt ta o, bTape g ta ab sz ln kd2_46 bg2_47 nx2_48 ft2_49 fb, bTown g o a pe wo tx ch jo tr q_50 sd f]) [0, 2, 1] rfl rfl hP hD
                    exact mret_z hx hb hr hlocks hS (Nat.le_of_ble_eq_true rfl) (Nat.le_of_ble_eq_true rfl) dX10_readLine_237 (kd2_46, bg2_47, nx2_48, ft2_49, pe, wo, ch, jo, tr, q_50, f, (0 : Int32)) rfl (by decide) (show (0 ≤ pe.toInt ∧ pe.toInt ≤ 8) ∧ (0 ≤ wo.toInt ∧ wo.toInt ≤ 6) ∧ (zZ4 f) ∧ (-1 ≤ ft2_49.toInt) ∧ (0 ≤ nx2_48.toInt ∧ nx2_48.toInt ≤ 400) ∧ (0 ≤ bg2_47.toInt ∧ bg2_47.toInt ≤ 400) ∧ (zKd kd2_46.toInt bg2_47.toInt nx2_48.toInt) ∧ (0 = 0 ∨ 0 = 1) from ⟨b_pe, b_wo, rf, hq51_3, hq51_0, hq51_1, hq51_2, (by decide)⟩) hP hD
                  · skip
                    have c54 : ¬ q_50.toInt = (-1) := zne cb9 rfl (by decide)
                    have w55 := hq51_4 c54
                    have w56 : 0 ≤ q_50.toInt ∧ q_50.toInt ≤ 999 := by omega
                    refine lv_iconst (v := 1) hx hb dX10_readLine_232 (by decide) ?_
                    refine lv_goto (tgt := 237) hx hb dX10_readLine_233 (by decide) ?_
                    have hP : va_P g.1 vwCl (List.flatten [bTT g tt ta o, bTown g o a pe wo tx ch jo tr q_50 sd f, bTape g ta ab sz ln kd2_46 bg2_47 nx2_48 ft2_49 fb]) H := hP
                    have hD : va_D A (List.flatten [bTT g tt ta o, bTown g o a pe wo tx ch jo tr q_50 sd f, bTape g ta ab sz ln kd2_46 bg2_47 nx2_48 ft2_49 fb]) := hD
                    obtain ⟨hP, hD⟩ := zord (g := g) (Bs' := [bTT g tt ta o, bTape g ta ab sz ln kd2_46 bg2_47 nx2_48 ft2_49 fb, bTown g o a pe wo tx ch jo tr q_50 sd f]) [0, 2, 1] rfl rfl hP hD
                    exact mret_z hx hb hr hlocks hS (Nat.le_of_ble_eq_true rfl) (Nat.le_of_ble_eq_true rfl) dX10_readLine_237 (kd2_46, bg2_47, nx2_48, ft2_49, pe, wo, ch, jo, tr, q_50, f, (1 : Int32)) rfl (by decide) (show (0 ≤ pe.toInt ∧ pe.toInt ≤ 8) ∧ (0 ≤ wo.toInt ∧ wo.toInt ≤ 6) ∧ (zZ4 f) ∧ (-1 ≤ ft2_49.toInt) ∧ (0 ≤ nx2_48.toInt ∧ nx2_48.toInt ≤ 400) ∧ (0 ≤ bg2_47.toInt ∧ bg2_47.toInt ≤ 400) ∧ (zKd kd2_46.toInt bg2_47.toInt nx2_48.toInt) ∧ (1 = 0 ∨ 1 = 1) from ⟨b_pe, b_wo, rf, hq51_3, hq51_0, hq51_1, hq51_2, (by decide)⟩) hP hD
              · skip
                refine lv_if_eq (tgt := 195) hx hb dX10_readLine_162 (by decide) (fun c57 => absurd c57 (by decide)) (fun _ => ?_)
                refine lv_aload_n hx hb dX10_readLine_165 rfl (lv_at hl 0 rfl) ?_
                refine va_get (D := g.1) (ci := 8) (v := .ref ta) (C := RX10) (T := TX10) (N := 2) hx hb hts izRX10 hown hK hP 0 rfl rfl 0 (by decide) (hts _ k441) (fun x9 h9 => u_same (hts _ k442) x9 h9) rfl dX10_readLine_166 ?_
                refine lv_iconst (v := 0) hx hb dX10_readLine_169 (by decide) ?_
                refine lv_bipush (v := 100) hx hb dX10_readLine_170 (by decide) ?_
                have hL0 : (0 : Int32).toInt = 0 := by decide
                have hL100 : (100 : Int32).toInt = 100 := by decide
                refine mcallV' (g := g) (q0 := 0) (ci := 6) (As := [.int 0, .int 100]) (rest := []) St hK hT hA hP hD hS hl.1 [2] [0, 1] rfl rfl rfl (c_t_number l g ta ab sz ln kd2_31 bg2_32 nx2_33 ft fb 0 100 hln hq35_0 hq35_1 hq35_2 hft) (cwV 2 hts (zgL (zl4 k445 k294 k295 k277) k273) rfl rfl rfl (by decide +kernel) ⟨Nat.le_of_ble_eq_true rfl, Nat.le_of_ble_eq_true rfl⟩) rfl rfl rfl rfl (Nat.le_of_ble_eq_true rfl) dX10_readLine_172 ⟨(Nat.le_of_ble_eq_true rfl), (Nat.le_of_ble_eq_true rfl)⟩ (fun u_ H locs hq63 hP hD hS => ?_)
                obtain ⟨kd2_58, bg2_59, nx2_60, ft2_61, q_62⟩ := u_
                replace hq63 : (0 ≤ nx2_60.toInt ∧ nx2_60.toInt ≤ 400) ∧ (0 ≤ bg2_59.toInt ∧ bg2_59.toInt ≤ 400) ∧ (zKd kd2_58.toInt bg2_59.toInt nx2_60.toInt) ∧ (-1 ≤ ft2_61.toInt) ∧ (zImp (¬ q_62.toInt = -1) ((0 : Int32).toInt ≤ q_62.toInt ∧ q_62.toInt ≤ (100 : Int32).toInt)) := hq63
                have hP : va_P g.1 vwCl (List.flatten [bTT g tt ta o, bTown g o a pe wo tx ch jo tr dy sd f, bTape g ta ab sz ln kd2_58 bg2_59 nx2_60 ft2_61 fb]) H := hP
                have hD : va_D A (List.flatten [bTT g tt ta o, bTown g o a pe wo tx ch jo tr dy sd f, bTape g ta ab sz ln kd2_58 bg2_59 nx2_60 ft2_61 fb]) := hD
                refine W.widen (k := 0) (n := 0) (Nat.le_of_ble_eq_true rfl) (Nat.le_of_ble_eq_true rfl) ?_
                refine W.eq (g2 := F0 m 175 ls [.int q_62]) rfl ?_
                obtain ⟨hq63_0, hq63_1, hq63_2, hq63_3, hq63_4⟩ := hq63
                refine lv_istore_n (lv' := [(1, .int q_62), (0, .ref tt)]) hx hb dX10_readLine_175 rfl hl (by decide) rfl (fun ls hl => ?_)
                refine lv_aload_n hx hb dX10_readLine_176 rfl (lv_at hl 1 rfl) ?_
                refine va_get (D := g.1) (ci := 8) (v := .ref o) (C := RX10) (T := TX10) (N := 2) hx hb hts izRX10 hown hK hP 0 rfl rfl 1 (by decide) (hts _ k439) (fun _ h9 => h9) rfl dX10_readLine_177 ?_
                refine lv_iload_n hx hb dX10_readLine_180 rfl (lv_at hl 0 rfl) ?_
                refine va_put (D := g.1) (ci := 7) (v := .int q_62) (ty := .int) (C := RX9) (T := TX9) (N := 19) hx hb hts izRX9 tyX9 tyX9_ok nmX9 hown hK hP hD hS 1 rfl rfl 5 (by decide) (hts _ k470) (fun _ h9 => h9) rfl (by decide +kernel) rfl rfl (Nat.le_of_ble_eq_true rfl) dX10_readLine_181 (fun H locs hP hD hS => ?_)
                have hP : va_P g.1 vwCl (List.flatten [bTT g tt ta o, bTown g o a pe wo tx ch jo q_62 dy sd f, bTape g ta ab sz ln kd2_58 bg2_59 nx2_60 ft2_61 fb]) H := hP
                have hD : va_D A (List.flatten [bTT g tt ta o, bTown g o a pe wo tx ch jo q_62 dy sd f, bTape g ta ab sz ln kd2_58 bg2_59 nx2_60 ft2_61 fb]) := hD
                refine lv_iload_n hx hb dX10_readLine_184 rfl (lv_at hl 0 rfl) ?_
                refine lv_iconst (v := (-1)) hx hb dX10_readLine_185 (by decide) ?_
                refine lv_icmp_eq (tgt := 193) hx hb dX10_readLine_186 (by decide) (fun cb9 => ?_) (fun cb9 => ?_)
                · skip
                  have c64 : q_62.toInt = (-1) := zeq cb9 rfl (by decide)
                  have n65 : q_62.toInt ≤ (-1) := Int.le_trans (Int.le_of_eq c64) (Int.le_refl _)
                  refine lv_iconst (v := 0) hx hb dX10_readLine_193 (by decide) ?_
                  have hP : va_P g.1 vwCl (List.flatten [bTT g tt ta o, bTown g o a pe wo tx ch jo q_62 dy sd f, bTape g ta ab sz ln kd2_58 bg2_59 nx2_60 ft2_61 fb]) H := hP
                  have hD : va_D A (List.flatten [bTT g tt ta o, bTown g o a pe wo tx ch jo q_62 dy sd f, bTape g ta ab sz ln kd2_58 bg2_59 nx2_60 ft2_61 fb]) := hD
                  obtain ⟨hP, hD⟩ := zord (g := g) (Bs' := [bTT g tt ta o, bTape g ta ab sz ln kd2_58 bg2_59 nx2_60 ft2_61 fb, bTown g o a pe wo tx ch jo q_62 dy sd f]) [0, 2, 1] rfl rfl hP hD
                  exact mret_z hx hb hr hlocks hS (Nat.le_of_ble_eq_true rfl) (Nat.le_of_ble_eq_true rfl) dX10_readLine_194 (kd2_58, bg2_59, nx2_60, ft2_61, pe, wo, ch, jo, q_62, dy, f, (0 : Int32)) rfl (by decide) (show (0 ≤ pe.toInt ∧ pe.toInt ≤ 8) ∧ (0 ≤ wo.toInt ∧ wo.toInt ≤ 6) ∧ (zZ4 f) ∧ (-1 ≤ ft2_61.toInt) ∧ (0 ≤ nx2_60.toInt ∧ nx2_60.toInt ≤ 400) ∧ (0 ≤ bg2_59.toInt ∧ bg2_59.toInt ≤ 400) ∧ (zKd kd2_58.toInt bg2_59.toInt nx2_60.toInt) ∧ (0 = 0 ∨ 0 = 1) from ⟨b_pe, b_wo, rf, hq63_3, hq63_0, hq63_1, hq63_2, (by decide)⟩) hP hD
                · skip
                  have c66 : ¬ q_62.toInt = (-1) := zne cb9 rfl (by decide)
                  have w67 := hq63_4 c66
                  have w68 : 0 ≤ q_62.toInt ∧ q_62.toInt ≤ 100 := by omega
                  refine lv_iconst (v := 1) hx hb dX10_readLine_189 (by decide) ?_
                  refine lv_goto (tgt := 194) hx hb dX10_readLine_190 (by decide) ?_
                  have hP : va_P g.1 vwCl (List.flatten [bTT g tt ta o, bTown g o a pe wo tx ch jo q_62 dy sd f, bTape g ta ab sz ln kd2_58 bg2_59 nx2_60 ft2_61 fb]) H := hP
                  have hD : va_D A (List.flatten [bTT g tt ta o, bTown g o a pe wo tx ch jo q_62 dy sd f, bTape g ta ab sz ln kd2_58 bg2_59 nx2_60 ft2_61 fb]) := hD
                  obtain ⟨hP, hD⟩ := zord (g := g) (Bs' := [bTT g tt ta o, bTape g ta ab sz ln kd2_58 bg2_59 nx2_60 ft2_61 fb, bTown g o a pe wo tx ch jo q_62 dy sd f]) [0, 2, 1] rfl rfl hP hD
                  exact mret_z hx hb hr hlocks hS (Nat.le_of_ble_eq_true rfl) (Nat.le_of_ble_eq_true rfl) dX10_readLine_194 (kd2_58, bg2_59, nx2_60, ft2_61, pe, wo, ch, jo, q_62, dy, f, (1 : Int32)) rfl (by decide) (show (0 ≤ pe.toInt ∧ pe.toInt ≤ 8) ∧ (0 ≤ wo.toInt ∧ wo.toInt ≤ 6) ∧ (zZ4 f) ∧ (-1 ≤ ft2_61.toInt) ∧ (0 ≤ nx2_60.toInt ∧ nx2_60.toInt ≤ 400) ∧ (0 ≤ bg2_59.toInt ∧ bg2_59.toInt ≤ 400) ∧ (zKd kd2_58.toInt bg2_59.toInt nx2_60.toInt) ∧ (1 = 0 ∨ 1 = 1) from ⟨b_pe, b_wo, rf, hq63_3, hq63_0, hq63_1, hq63_2, (by decide)⟩) hP hD
            · skip
              refine lv_if_eq (tgt := 153) hx hb dX10_readLine_120 (by decide) (fun c69 => absurd c69 (by decide)) (fun _ => ?_)
              refine lv_aload_n hx hb dX10_readLine_123 rfl (lv_at hl 0 rfl) ?_
              refine va_get (D := g.1) (ci := 8) (v := .ref ta) (C := RX10) (T := TX10) (N := 2) hx hb hts izRX10 hown hK hP 0 rfl rfl 0 (by decide) (hts _ k441) (fun x9 h9 => u_same (hts _ k442) x9 h9) rfl dX10_readLine_124 ?_
              refine lv_iconst (v := 1) hx hb dX10_readLine_127 (by decide) ?_
              refine lv_bipush (v := 30) hx hb dX10_readLine_128 (by decide) ?_
              have hL1 : (1 : Int32).toInt = 1 := by decide
              have hL30 : (30 : Int32).toInt = 30 := by decide
              refine mcallV' (g := g) (q0 := 0) (ci := 6) (As := [.int 1, .int 30]) (rest := []) St hK hT hA hP hD hS hl.1 [2] [0, 1] rfl rfl rfl (c_t_number l g ta ab sz ln kd2_25 bg2_26 nx2_27 ft fb 1 30 hln hq29_0 hq29_1 hq29_2 hft) (cwV 2 hts (zgL (zl4 k445 k294 k295 k277) k273) rfl rfl rfl (by decide +kernel) ⟨Nat.le_of_ble_eq_true rfl, Nat.le_of_ble_eq_true rfl⟩) rfl rfl rfl rfl (Nat.le_of_ble_eq_true rfl) dX10_readLine_130 ⟨(Nat.le_of_ble_eq_true rfl), (Nat.le_of_ble_eq_true rfl)⟩ (fun u_ H locs hq75 hP hD hS => ?_)
              obtain ⟨kd2_70, bg2_71, nx2_72, ft2_73, q_74⟩ := u_
              replace hq75 : (0 ≤ nx2_72.toInt ∧ nx2_72.toInt ≤ 400) ∧ (0 ≤ bg2_71.toInt ∧ bg2_71.toInt ≤ 400) ∧ (zKd kd2_70.toInt bg2_71.toInt nx2_72.toInt) ∧ (-1 ≤ ft2_73.toInt) ∧ (zImp (¬ q_74.toInt = -1) ((1 : Int32).toInt ≤ q_74.toInt ∧ q_74.toInt ≤ (30 : Int32).toInt)) := hq75
              have hP : va_P g.1 vwCl (List.flatten [bTT g tt ta o, bTown g o a pe wo tx ch jo tr dy sd f, bTape g ta ab sz ln kd2_70 bg2_71 nx2_72 ft2_73 fb]) H := hP
              have hD : va_D A (List.flatten [bTT g tt ta o, bTown g o a pe wo tx ch jo tr dy sd f, bTape g ta ab sz ln kd2_70 bg2_71 nx2_72 ft2_73 fb]) := hD
              refine W.widen (k := 0) (n := 0) (Nat.le_of_ble_eq_true rfl) (Nat.le_of_ble_eq_true rfl) ?_
              refine W.eq (g2 := F0 m 133 ls [.int q_74]) rfl ?_
              obtain ⟨hq75_0, hq75_1, hq75_2, hq75_3, hq75_4⟩ := hq75
              refine lv_istore_n (lv' := [(1, .int q_74), (0, .ref tt)]) hx hb dX10_readLine_133 rfl hl (by decide) rfl (fun ls hl => ?_)
              refine lv_aload_n hx hb dX10_readLine_134 rfl (lv_at hl 1 rfl) ?_
              refine va_get (D := g.1) (ci := 8) (v := .ref o) (C := RX10) (T := TX10) (N := 2) hx hb hts izRX10 hown hK hP 0 rfl rfl 1 (by decide) (hts _ k439) (fun _ h9 => h9) rfl dX10_readLine_135 ?_
              refine lv_iload_n hx hb dX10_readLine_138 rfl (lv_at hl 0 rfl) ?_
              refine va_put (D := g.1) (ci := 7) (v := .int q_74) (ty := .int) (C := RX9) (T := TX9) (N := 19) hx hb hts izRX9 tyX9 tyX9_ok nmX9 hown hK hP hD hS 1 rfl rfl 4 (by decide) (hts _ k469) (fun _ h9 => h9) rfl (by decide +kernel) rfl rfl (Nat.le_of_ble_eq_true rfl) dX10_readLine_139 (fun H locs hP hD hS => ?_)
              have hP : va_P g.1 vwCl (List.flatten [bTT g tt ta o, bTown g o a pe wo tx ch q_74 tr dy sd f, bTape g ta ab sz ln kd2_70 bg2_71 nx2_72 ft2_73 fb]) H := hP
              have hD : va_D A (List.flatten [bTT g tt ta o, bTown g o a pe wo tx ch q_74 tr dy sd f, bTape g ta ab sz ln kd2_70 bg2_71 nx2_72 ft2_73 fb]) := hD
              refine lv_iload_n hx hb dX10_readLine_142 rfl (lv_at hl 0 rfl) ?_
              refine lv_iconst (v := (-1)) hx hb dX10_readLine_143 (by decide) ?_
              refine lv_icmp_eq (tgt := 151) hx hb dX10_readLine_144 (by decide) (fun cb9 => ?_) (fun cb9 => ?_)
              · skip
                have c76 : q_74.toInt = (-1) := zeq cb9 rfl (by decide)
                have n77 : q_74.toInt ≤ (-1) := Int.le_trans (Int.le_of_eq c76) (Int.le_refl _)
                refine lv_iconst (v := 0) hx hb dX10_readLine_151 (by decide) ?_
                have hP : va_P g.1 vwCl (List.flatten [bTT g tt ta o, bTown g o a pe wo tx ch q_74 tr dy sd f, bTape g ta ab sz ln kd2_70 bg2_71 nx2_72 ft2_73 fb]) H := hP
                have hD : va_D A (List.flatten [bTT g tt ta o, bTown g o a pe wo tx ch q_74 tr dy sd f, bTape g ta ab sz ln kd2_70 bg2_71 nx2_72 ft2_73 fb]) := hD
                obtain ⟨hP, hD⟩ := zord (g := g) (Bs' := [bTT g tt ta o, bTape g ta ab sz ln kd2_70 bg2_71 nx2_72 ft2_73 fb, bTown g o a pe wo tx ch q_74 tr dy sd f]) [0, 2, 1] rfl rfl hP hD
                exact mret_z hx hb hr hlocks hS (Nat.le_of_ble_eq_true rfl) (Nat.le_of_ble_eq_true rfl) dX10_readLine_152 (kd2_70, bg2_71, nx2_72, ft2_73, pe, wo, ch, q_74, tr, dy, f, (0 : Int32)) rfl (by decide) (show (0 ≤ pe.toInt ∧ pe.toInt ≤ 8) ∧ (0 ≤ wo.toInt ∧ wo.toInt ≤ 6) ∧ (zZ4 f) ∧ (-1 ≤ ft2_73.toInt) ∧ (0 ≤ nx2_72.toInt ∧ nx2_72.toInt ≤ 400) ∧ (0 ≤ bg2_71.toInt ∧ bg2_71.toInt ≤ 400) ∧ (zKd kd2_70.toInt bg2_71.toInt nx2_72.toInt) ∧ (0 = 0 ∨ 0 = 1) from ⟨b_pe, b_wo, rf, hq75_3, hq75_0, hq75_1, hq75_2, (by decide)⟩) hP hD
              · skip
                have c78 : ¬ q_74.toInt = (-1) := zne cb9 rfl (by decide)
                have w79 := hq75_4 c78
                have w80 : 1 ≤ q_74.toInt ∧ q_74.toInt ≤ 30 := by omega
                refine lv_iconst (v := 1) hx hb dX10_readLine_147 (by decide) ?_
                refine lv_goto (tgt := 152) hx hb dX10_readLine_148 (by decide) ?_
                have hP : va_P g.1 vwCl (List.flatten [bTT g tt ta o, bTown g o a pe wo tx ch q_74 tr dy sd f, bTape g ta ab sz ln kd2_70 bg2_71 nx2_72 ft2_73 fb]) H := hP
                have hD : va_D A (List.flatten [bTT g tt ta o, bTown g o a pe wo tx ch q_74 tr dy sd f, bTape g ta ab sz ln kd2_70 bg2_71 nx2_72 ft2_73 fb]) := hD
                obtain ⟨hP, hD⟩ := zord (g := g) (Bs' := [bTT g tt ta o, bTape g ta ab sz ln kd2_70 bg2_71 nx2_72 ft2_73 fb, bTown g o a pe wo tx ch q_74 tr dy sd f]) [0, 2, 1] rfl rfl hP hD
                exact mret_z hx hb hr hlocks hS (Nat.le_of_ble_eq_true rfl) (Nat.le_of_ble_eq_true rfl) dX10_readLine_152 (kd2_70, bg2_71, nx2_72, ft2_73, pe, wo, ch, q_74, tr, dy, f, (1 : Int32)) rfl (by decide) (show (0 ≤ pe.toInt ∧ pe.toInt ≤ 8) ∧ (0 ≤ wo.toInt ∧ wo.toInt ≤ 6) ∧ (zZ4 f) ∧ (-1 ≤ ft2_73.toInt) ∧ (0 ≤ nx2_72.toInt ∧ nx2_72.toInt ≤ 400) ∧ (0 ≤ bg2_71.toInt ∧ bg2_71.toInt ≤ 400) ∧ (zKd kd2_70.toInt bg2_71.toInt nx2_72.toInt) ∧ (1 = 0 ∨ 1 = 1) from ⟨b_pe, b_wo, rf, hq75_3, hq75_0, hq75_1, hq75_2, (by decide)⟩) hP hD
          · skip
            refine lv_if_eq (tgt := 111) hx hb dX10_readLine_77 (by decide) (fun c81 => absurd c81 (by decide)) (fun _ => ?_)
            refine lv_aload_n hx hb dX10_readLine_80 rfl (lv_at hl 0 rfl) ?_
            refine va_get (D := g.1) (ci := 8) (v := .ref ta) (C := RX10) (T := TX10) (N := 2) hx hb hts izRX10 hown hK hP 0 rfl rfl 0 (by decide) (hts _ k441) (fun x9 h9 => u_same (hts _ k442) x9 h9) rfl dX10_readLine_81 ?_
            refine lv_iconst (v := 0) hx hb dX10_readLine_84 (by decide) ?_
            refine lv_sipush (v := 999) hx hb dX10_readLine_85 (by decide) ?_
            have hL0 : (0 : Int32).toInt = 0 := by decide
            have hL999 : (999 : Int32).toInt = 999 := by decide
            refine mcallV' (g := g) (q0 := 0) (ci := 6) (As := [.int 0, .int 999]) (rest := []) St hK hT hA hP hD hS hl.1 [2] [0, 1] rfl rfl rfl (c_t_number l g ta ab sz ln kd2_19 bg2_20 nx2_21 ft fb 0 999 hln hq23_0 hq23_1 hq23_2 hft) (cwV 2 hts (zgL (zl4 k445 k294 k295 k277) k273) rfl rfl rfl (by decide +kernel) ⟨Nat.le_of_ble_eq_true rfl, Nat.le_of_ble_eq_true rfl⟩) rfl rfl rfl rfl (Nat.le_of_ble_eq_true rfl) dX10_readLine_88 ⟨(Nat.le_of_ble_eq_true rfl), (Nat.le_of_ble_eq_true rfl)⟩ (fun u_ H locs hq87 hP hD hS => ?_)
            obtain ⟨kd2_82, bg2_83, nx2_84, ft2_85, q_86⟩ := u_
            replace hq87 : (0 ≤ nx2_84.toInt ∧ nx2_84.toInt ≤ 400) ∧ (0 ≤ bg2_83.toInt ∧ bg2_83.toInt ≤ 400) ∧ (zKd kd2_82.toInt bg2_83.toInt nx2_84.toInt) ∧ (-1 ≤ ft2_85.toInt) ∧ (zImp (¬ q_86.toInt = -1) ((0 : Int32).toInt ≤ q_86.toInt ∧ q_86.toInt ≤ (999 : Int32).toInt)) := hq87
            have hP : va_P g.1 vwCl (List.flatten [bTT g tt ta o, bTown g o a pe wo tx ch jo tr dy sd f, bTape g ta ab sz ln kd2_82 bg2_83 nx2_84 ft2_85 fb]) H := hP
            have hD : va_D A (List.flatten [bTT g tt ta o, bTown g o a pe wo tx ch jo tr dy sd f, bTape g ta ab sz ln kd2_82 bg2_83 nx2_84 ft2_85 fb]) := hD
            refine W.widen (k := 0) (n := 0) (Nat.le_of_ble_eq_true rfl) (Nat.le_of_ble_eq_true rfl) ?_
            refine W.eq (g2 := F0 m 91 ls [.int q_86]) rfl ?_
            obtain ⟨hq87_0, hq87_1, hq87_2, hq87_3, hq87_4⟩ := hq87
            refine lv_istore_n (lv' := [(1, .int q_86), (0, .ref tt)]) hx hb dX10_readLine_91 rfl hl (by decide) rfl (fun ls hl => ?_)
            refine lv_aload_n hx hb dX10_readLine_92 rfl (lv_at hl 1 rfl) ?_
            refine va_get (D := g.1) (ci := 8) (v := .ref o) (C := RX10) (T := TX10) (N := 2) hx hb hts izRX10 hown hK hP 0 rfl rfl 1 (by decide) (hts _ k439) (fun _ h9 => h9) rfl dX10_readLine_93 ?_
            refine lv_iload_n hx hb dX10_readLine_96 rfl (lv_at hl 0 rfl) ?_
            refine va_put (D := g.1) (ci := 7) (v := .int q_86) (ty := .int) (C := RX9) (T := TX9) (N := 19) hx hb hts izRX9 tyX9 tyX9_ok nmX9 hown hK hP hD hS 1 rfl rfl 3 (by decide) (hts _ k468) (fun _ h9 => h9) rfl (by decide +kernel) rfl rfl (Nat.le_of_ble_eq_true rfl) dX10_readLine_97 (fun H locs hP hD hS => ?_)
            have hP : va_P g.1 vwCl (List.flatten [bTT g tt ta o, bTown g o a pe wo tx q_86 jo tr dy sd f, bTape g ta ab sz ln kd2_82 bg2_83 nx2_84 ft2_85 fb]) H := hP
            have hD : va_D A (List.flatten [bTT g tt ta o, bTown g o a pe wo tx q_86 jo tr dy sd f, bTape g ta ab sz ln kd2_82 bg2_83 nx2_84 ft2_85 fb]) := hD
            refine lv_iload_n hx hb dX10_readLine_100 rfl (lv_at hl 0 rfl) ?_
            refine lv_iconst (v := (-1)) hx hb dX10_readLine_101 (by decide) ?_
            refine lv_icmp_eq (tgt := 109) hx hb dX10_readLine_102 (by decide) (fun cb9 => ?_) (fun cb9 => ?_)
            · skip
              have c88 : q_86.toInt = (-1) := zeq cb9 rfl (by decide)
              have n89 : q_86.toInt ≤ (-1) := Int.le_trans (Int.le_of_eq c88) (Int.le_refl _)
              refine lv_iconst (v := 0) hx hb dX10_readLine_109 (by decide) ?_
              have hP : va_P g.1 vwCl (List.flatten [bTT g tt ta o, bTown g o a pe wo tx q_86 jo tr dy sd f, bTape g ta ab sz ln kd2_82 bg2_83 nx2_84 ft2_85 fb]) H := hP
              have hD : va_D A (List.flatten [bTT g tt ta o, bTown g o a pe wo tx q_86 jo tr dy sd f, bTape g ta ab sz ln kd2_82 bg2_83 nx2_84 ft2_85 fb]) := hD
              obtain ⟨hP, hD⟩ := zord (g := g) (Bs' := [bTT g tt ta o, bTape g ta ab sz ln kd2_82 bg2_83 nx2_84 ft2_85 fb, bTown g o a pe wo tx q_86 jo tr dy sd f]) [0, 2, 1] rfl rfl hP hD
              exact mret_z hx hb hr hlocks hS (Nat.le_of_ble_eq_true rfl) (Nat.le_of_ble_eq_true rfl) dX10_readLine_110 (kd2_82, bg2_83, nx2_84, ft2_85, pe, wo, q_86, jo, tr, dy, f, (0 : Int32)) rfl (by decide) (show (0 ≤ pe.toInt ∧ pe.toInt ≤ 8) ∧ (0 ≤ wo.toInt ∧ wo.toInt ≤ 6) ∧ (zZ4 f) ∧ (-1 ≤ ft2_85.toInt) ∧ (0 ≤ nx2_84.toInt ∧ nx2_84.toInt ≤ 400) ∧ (0 ≤ bg2_83.toInt ∧ bg2_83.toInt ≤ 400) ∧ (zKd kd2_82.toInt bg2_83.toInt nx2_84.toInt) ∧ (0 = 0 ∨ 0 = 1) from ⟨b_pe, b_wo, rf, hq87_3, hq87_0, hq87_1, hq87_2, (by decide)⟩) hP hD
            · skip
              have c90 : ¬ q_86.toInt = (-1) := zne cb9 rfl (by decide)
              have w91 := hq87_4 c90
              have w92 : 0 ≤ q_86.toInt ∧ q_86.toInt ≤ 999 := by omega
              refine lv_iconst (v := 1) hx hb dX10_readLine_105 (by decide) ?_
              refine lv_goto (tgt := 110) hx hb dX10_readLine_106 (by decide) ?_
              have hP : va_P g.1 vwCl (List.flatten [bTT g tt ta o, bTown g o a pe wo tx q_86 jo tr dy sd f, bTape g ta ab sz ln kd2_82 bg2_83 nx2_84 ft2_85 fb]) H := hP
              have hD : va_D A (List.flatten [bTT g tt ta o, bTown g o a pe wo tx q_86 jo tr dy sd f, bTape g ta ab sz ln kd2_82 bg2_83 nx2_84 ft2_85 fb]) := hD
              obtain ⟨hP, hD⟩ := zord (g := g) (Bs' := [bTT g tt ta o, bTape g ta ab sz ln kd2_82 bg2_83 nx2_84 ft2_85 fb, bTown g o a pe wo tx q_86 jo tr dy sd f]) [0, 2, 1] rfl rfl hP hD
              exact mret_z hx hb hr hlocks hS (Nat.le_of_ble_eq_true rfl) (Nat.le_of_ble_eq_true rfl) dX10_readLine_110 (kd2_82, bg2_83, nx2_84, ft2_85, pe, wo, q_86, jo, tr, dy, f, (1 : Int32)) rfl (by decide) (show (0 ≤ pe.toInt ∧ pe.toInt ≤ 8) ∧ (0 ≤ wo.toInt ∧ wo.toInt ≤ 6) ∧ (zZ4 f) ∧ (-1 ≤ ft2_85.toInt) ∧ (0 ≤ nx2_84.toInt ∧ nx2_84.toInt ≤ 400) ∧ (0 ≤ bg2_83.toInt ∧ bg2_83.toInt ≤ 400) ∧ (zKd kd2_82.toInt bg2_83.toInt nx2_84.toInt) ∧ (1 = 0 ∨ 1 = 1) from ⟨b_pe, b_wo, rf, hq87_3, hq87_0, hq87_1, hq87_2, (by decide)⟩) hP hD
        · skip
          refine lv_if_eq (tgt := 68) hx hb dX10_readLine_60 (by decide) (fun c93 => absurd c93 (by decide)) (fun _ => ?_)
          refine lv_aload_n hx hb dX10_readLine_63 rfl (lv_at hl 0 rfl) ?_
          refine mcallV' (g := g) (q0 := 0) (ci := 8) (As := []) (rest := []) St hK hT hA hP hD hS hl.1 [0, 2, 1] [] rfl rfl rfl (c_tt_readShares l g tt ta o ab sz ln kd2_13 bg2_14 nx2_15 ft fb a pe wo tx ch jo tr dy sd f b_pe b_wo rf hln hq17_0 hq17_1 hq17_2 hft) (cwV 0 hts (zgL (zl4 k483 k484 k485 k476) k466) rfl rfl rfl (by decide +kernel) ⟨Nat.le_of_ble_eq_true rfl, Nat.le_of_ble_eq_true rfl⟩) rfl rfl rfl rfl (Nat.le_of_ble_eq_true rfl) dX10_readLine_64 ⟨(Nat.le_of_ble_eq_true rfl), (Nat.le_of_ble_eq_true rfl)⟩ (fun u_ H locs hq100 hP hD hS => ?_)
          obtain ⟨kd2_94, bg2_95, nx2_96, ft2_97, f2_98, q_99⟩ := u_
          replace hq100 : (zZ4 f2_98) ∧ (-1 ≤ ft2_97.toInt) ∧ (0 ≤ nx2_96.toInt ∧ nx2_96.toInt ≤ 400) ∧ (0 ≤ bg2_95.toInt ∧ bg2_95.toInt ≤ 400) ∧ (zKd kd2_94.toInt bg2_95.toInt nx2_96.toInt) ∧ (q_99 = 0 ∨ q_99 = 1) := hq100
          have hP : va_P g.1 vwCl (List.flatten [bTT g tt ta o, bTape g ta ab sz ln kd2_94 bg2_95 nx2_96 ft2_97 fb, bTown g o a pe wo tx ch jo tr dy sd f2_98]) H := hP
          have hD : va_D A (List.flatten [bTT g tt ta o, bTape g ta ab sz ln kd2_94 bg2_95 nx2_96 ft2_97 fb, bTown g o a pe wo tx ch jo tr dy sd f2_98]) := hD
          refine W.widen (k := 0) (n := 0) (Nat.le_of_ble_eq_true rfl) (Nat.le_of_ble_eq_true rfl) ?_
          refine W.eq (g2 := F0 m 67 ls [.int q_99]) rfl ?_
          obtain ⟨rf2_98, hq100_1, hq100_2, hq100_3, hq100_4, hq100_5⟩ := hq100
          rcases hq100_5 with rfl | rfl
          · skip
            have hP : va_P g.1 vwCl (List.flatten [bTT g tt ta o, bTape g ta ab sz ln kd2_94 bg2_95 nx2_96 ft2_97 fb, bTown g o a pe wo tx ch jo tr dy sd f2_98]) H := hP
            have hD : va_D A (List.flatten [bTT g tt ta o, bTape g ta ab sz ln kd2_94 bg2_95 nx2_96 ft2_97 fb, bTown g o a pe wo tx ch jo tr dy sd f2_98]) := hD
            exact mret_z hx hb hr hlocks hS (Nat.le_of_ble_eq_true rfl) (Nat.le_of_ble_eq_true rfl) dX10_readLine_67 (kd2_94, bg2_95, nx2_96, ft2_97, pe, wo, ch, jo, tr, dy, f2_98, (0 : Int32)) rfl (by decide) (show (0 ≤ pe.toInt ∧ pe.toInt ≤ 8) ∧ (0 ≤ wo.toInt ∧ wo.toInt ≤ 6) ∧ (zZ4 f2_98) ∧ (-1 ≤ ft2_97.toInt) ∧ (0 ≤ nx2_96.toInt ∧ nx2_96.toInt ≤ 400) ∧ (0 ≤ bg2_95.toInt ∧ bg2_95.toInt ≤ 400) ∧ (zKd kd2_94.toInt bg2_95.toInt nx2_96.toInt) ∧ (0 = 0 ∨ 0 = 1) from ⟨b_pe, b_wo, rf2_98, hq100_1, hq100_2, hq100_3, hq100_4, (by decide)⟩) hP hD
          · skip
            have hP : va_P g.1 vwCl (List.flatten [bTT g tt ta o, bTape g ta ab sz ln kd2_94 bg2_95 nx2_96 ft2_97 fb, bTown g o a pe wo tx ch jo tr dy sd f2_98]) H := hP
            have hD : va_D A (List.flatten [bTT g tt ta o, bTape g ta ab sz ln kd2_94 bg2_95 nx2_96 ft2_97 fb, bTown g o a pe wo tx ch jo tr dy sd f2_98]) := hD
            exact mret_z hx hb hr hlocks hS (Nat.le_of_ble_eq_true rfl) (Nat.le_of_ble_eq_true rfl) dX10_readLine_67 (kd2_94, bg2_95, nx2_96, ft2_97, pe, wo, ch, jo, tr, dy, f2_98, (1 : Int32)) rfl (by decide) (show (0 ≤ pe.toInt ∧ pe.toInt ≤ 8) ∧ (0 ≤ wo.toInt ∧ wo.toInt ≤ 6) ∧ (zZ4 f2_98) ∧ (-1 ≤ ft2_97.toInt) ∧ (0 ≤ nx2_96.toInt ∧ nx2_96.toInt ≤ 400) ∧ (0 ≤ bg2_95.toInt ∧ bg2_95.toInt ≤ 400) ∧ (zKd kd2_94.toInt bg2_95.toInt nx2_96.toInt) ∧ (1 = 0 ∨ 1 = 1) from ⟨b_pe, b_wo, rf2_98, hq100_1, hq100_2, hq100_3, hq100_4, (by decide)⟩) hP hD
      · skip
        refine lv_if_eq (tgt := 51) hx hb dX10_readLine_43 (by decide) (fun c101 => absurd c101 (by decide)) (fun _ => ?_)
        refine lv_aload_n hx hb dX10_readLine_46 rfl (lv_at hl 0 rfl) ?_
        refine mcallV' (g := g) (q0 := 0) (ci := 8) (As := []) (rest := []) St hK hT hA hP hD hS hl.1 [0, 2, 1] [] rfl rfl rfl (c_tt_readTrusts l g tt ta o ab sz ln kd2_7 bg2_8 nx2_9 ft fb a pe wo tx ch jo tr dy sd f b_pe b_wo rf hln hq11_0 hq11_1 hq11_2 hft) (cwV 0 hts (zgL (zl4 k480 k481 k482 k476) k465) rfl rfl rfl (by decide +kernel) ⟨Nat.le_of_ble_eq_true rfl, Nat.le_of_ble_eq_true rfl⟩) rfl rfl rfl rfl (Nat.le_of_ble_eq_true rfl) dX10_readLine_47 ⟨(Nat.le_of_ble_eq_true rfl), (Nat.le_of_ble_eq_true rfl)⟩ (fun u_ H locs hq108 hP hD hS => ?_)
        obtain ⟨kd2_102, bg2_103, nx2_104, ft2_105, f2_106, q_107⟩ := u_
        replace hq108 : (zZ4 f2_106) ∧ (-1 ≤ ft2_105.toInt) ∧ (0 ≤ nx2_104.toInt ∧ nx2_104.toInt ≤ 400) ∧ (0 ≤ bg2_103.toInt ∧ bg2_103.toInt ≤ 400) ∧ (zKd kd2_102.toInt bg2_103.toInt nx2_104.toInt) ∧ (q_107 = 0 ∨ q_107 = 1) := hq108
        have hP : va_P g.1 vwCl (List.flatten [bTT g tt ta o, bTape g ta ab sz ln kd2_102 bg2_103 nx2_104 ft2_105 fb, bTown g o a pe wo tx ch jo tr dy sd f2_106]) H := hP
        have hD : va_D A (List.flatten [bTT g tt ta o, bTape g ta ab sz ln kd2_102 bg2_103 nx2_104 ft2_105 fb, bTown g o a pe wo tx ch jo tr dy sd f2_106]) := hD
        refine W.widen (k := 0) (n := 0) (Nat.le_of_ble_eq_true rfl) (Nat.le_of_ble_eq_true rfl) ?_
        refine W.eq (g2 := F0 m 50 ls [.int q_107]) rfl ?_
        obtain ⟨rf2_106, hq108_1, hq108_2, hq108_3, hq108_4, hq108_5⟩ := hq108
        rcases hq108_5 with rfl | rfl
        · skip
          have hP : va_P g.1 vwCl (List.flatten [bTT g tt ta o, bTape g ta ab sz ln kd2_102 bg2_103 nx2_104 ft2_105 fb, bTown g o a pe wo tx ch jo tr dy sd f2_106]) H := hP
          have hD : va_D A (List.flatten [bTT g tt ta o, bTape g ta ab sz ln kd2_102 bg2_103 nx2_104 ft2_105 fb, bTown g o a pe wo tx ch jo tr dy sd f2_106]) := hD
          exact mret_z hx hb hr hlocks hS (Nat.le_of_ble_eq_true rfl) (Nat.le_of_ble_eq_true rfl) dX10_readLine_50 (kd2_102, bg2_103, nx2_104, ft2_105, pe, wo, ch, jo, tr, dy, f2_106, (0 : Int32)) rfl (by decide) (show (0 ≤ pe.toInt ∧ pe.toInt ≤ 8) ∧ (0 ≤ wo.toInt ∧ wo.toInt ≤ 6) ∧ (zZ4 f2_106) ∧ (-1 ≤ ft2_105.toInt) ∧ (0 ≤ nx2_104.toInt ∧ nx2_104.toInt ≤ 400) ∧ (0 ≤ bg2_103.toInt ∧ bg2_103.toInt ≤ 400) ∧ (zKd kd2_102.toInt bg2_103.toInt nx2_104.toInt) ∧ (0 = 0 ∨ 0 = 1) from ⟨b_pe, b_wo, rf2_106, hq108_1, hq108_2, hq108_3, hq108_4, (by decide)⟩) hP hD
        · skip
          have hP : va_P g.1 vwCl (List.flatten [bTT g tt ta o, bTape g ta ab sz ln kd2_102 bg2_103 nx2_104 ft2_105 fb, bTown g o a pe wo tx ch jo tr dy sd f2_106]) H := hP
          have hD : va_D A (List.flatten [bTT g tt ta o, bTape g ta ab sz ln kd2_102 bg2_103 nx2_104 ft2_105 fb, bTown g o a pe wo tx ch jo tr dy sd f2_106]) := hD
          exact mret_z hx hb hr hlocks hS (Nat.le_of_ble_eq_true rfl) (Nat.le_of_ble_eq_true rfl) dX10_readLine_50 (kd2_102, bg2_103, nx2_104, ft2_105, pe, wo, ch, jo, tr, dy, f2_106, (1 : Int32)) rfl (by decide) (show (0 ≤ pe.toInt ∧ pe.toInt ≤ 8) ∧ (0 ≤ wo.toInt ∧ wo.toInt ≤ 6) ∧ (zZ4 f2_106) ∧ (-1 ≤ ft2_105.toInt) ∧ (0 ≤ nx2_104.toInt ∧ nx2_104.toInt ≤ 400) ∧ (0 ≤ bg2_103.toInt ∧ bg2_103.toInt ≤ 400) ∧ (zKd kd2_102.toInt bg2_103.toInt nx2_104.toInt) ∧ (1 = 0 ∨ 1 = 1) from ⟨b_pe, b_wo, rf2_106, hq108_1, hq108_2, hq108_3, hq108_4, (by decide)⟩) hP hD
    · skip
      refine lv_if_eq (tgt := 34) hx hb dX10_readLine_26 (by decide) (fun c109 => absurd c109 (by decide)) (fun _ => ?_)
      refine lv_aload_n hx hb dX10_readLine_29 rfl (lv_at hl 0 rfl) ?_
      refine mcallV' (g := g) (q0 := 0) (ci := 8) (As := []) (rest := []) St hK hT hA hP hD hS hl.1 [0, 2, 1] [] rfl rfl rfl (c_tt_readWork l g tt ta o ab sz ln kd bg nx ft fb a pe wo tx ch jo tr dy sd f b_pe b_wo rf hln hnx hbg hkd hft) (cwV 0 hts (zgL (zl4 k477 k478 k479 k476) k459) rfl rfl rfl (by decide +kernel) ⟨Nat.le_of_ble_eq_true rfl, Nat.le_of_ble_eq_true rfl⟩) rfl rfl rfl rfl (Nat.le_of_ble_eq_true rfl) dX10_readLine_30 ⟨(Nat.le_of_ble_eq_true rfl), (Nat.le_of_ble_eq_true rfl)⟩ (fun u_ H locs hq117 hP hD hS => ?_)
      obtain ⟨kd2_110, bg2_111, nx2_112, ft2_113, wo2_114, f2_115, q_116⟩ := u_
      replace hq117 : (0 ≤ wo2_114.toInt ∧ wo2_114.toInt ≤ 6) ∧ (zZ4 f2_115) ∧ (-1 ≤ ft2_113.toInt) ∧ (0 ≤ nx2_112.toInt ∧ nx2_112.toInt ≤ 400) ∧ (0 ≤ bg2_111.toInt ∧ bg2_111.toInt ≤ 400) ∧ (zKd kd2_110.toInt bg2_111.toInt nx2_112.toInt) ∧ (q_116 = 0 ∨ q_116 = 1) := hq117
      have hP : va_P g.1 vwCl (List.flatten [bTT g tt ta o, bTape g ta ab sz ln kd2_110 bg2_111 nx2_112 ft2_113 fb, bTown g o a pe wo2_114 tx ch jo tr dy sd f2_115]) H := hP
      have hD : va_D A (List.flatten [bTT g tt ta o, bTape g ta ab sz ln kd2_110 bg2_111 nx2_112 ft2_113 fb, bTown g o a pe wo2_114 tx ch jo tr dy sd f2_115]) := hD
      refine W.widen (k := 0) (n := 0) (Nat.le_of_ble_eq_true rfl) (Nat.le_of_ble_eq_true rfl) ?_
      refine W.eq (g2 := F0 m 33 ls [.int q_116]) rfl ?_
      obtain ⟨hq117_0, rf2_115, hq117_2, hq117_3, hq117_4, hq117_5, hq117_6⟩ := hq117
      rcases hq117_6 with rfl | rfl
      · skip
        have hP : va_P g.1 vwCl (List.flatten [bTT g tt ta o, bTape g ta ab sz ln kd2_110 bg2_111 nx2_112 ft2_113 fb, bTown g o a pe wo2_114 tx ch jo tr dy sd f2_115]) H := hP
        have hD : va_D A (List.flatten [bTT g tt ta o, bTape g ta ab sz ln kd2_110 bg2_111 nx2_112 ft2_113 fb, bTown g o a pe wo2_114 tx ch jo tr dy sd f2_115]) := hD
        exact mret_z hx hb hr hlocks hS (Nat.le_of_ble_eq_true rfl) (Nat.le_of_ble_eq_true rfl) dX10_readLine_33 (kd2_110, bg2_111, nx2_112, ft2_113, pe, wo2_114, ch, jo, tr, dy, f2_115, (0 : Int32)) rfl (by decide) (show (0 ≤ pe.toInt ∧ pe.toInt ≤ 8) ∧ (0 ≤ wo2_114.toInt ∧ wo2_114.toInt ≤ 6) ∧ (zZ4 f2_115) ∧ (-1 ≤ ft2_113.toInt) ∧ (0 ≤ nx2_112.toInt ∧ nx2_112.toInt ≤ 400) ∧ (0 ≤ bg2_111.toInt ∧ bg2_111.toInt ≤ 400) ∧ (zKd kd2_110.toInt bg2_111.toInt nx2_112.toInt) ∧ (0 = 0 ∨ 0 = 1) from ⟨b_pe, hq117_0, rf2_115, hq117_2, hq117_3, hq117_4, hq117_5, (by decide)⟩) hP hD
      · skip
        have hP : va_P g.1 vwCl (List.flatten [bTT g tt ta o, bTape g ta ab sz ln kd2_110 bg2_111 nx2_112 ft2_113 fb, bTown g o a pe wo2_114 tx ch jo tr dy sd f2_115]) H := hP
        have hD : va_D A (List.flatten [bTT g tt ta o, bTape g ta ab sz ln kd2_110 bg2_111 nx2_112 ft2_113 fb, bTown g o a pe wo2_114 tx ch jo tr dy sd f2_115]) := hD
        exact mret_z hx hb hr hlocks hS (Nat.le_of_ble_eq_true rfl) (Nat.le_of_ble_eq_true rfl) dX10_readLine_33 (kd2_110, bg2_111, nx2_112, ft2_113, pe, wo2_114, ch, jo, tr, dy, f2_115, (1 : Int32)) rfl (by decide) (show (0 ≤ pe.toInt ∧ pe.toInt ≤ 8) ∧ (0 ≤ wo2_114.toInt ∧ wo2_114.toInt ≤ 6) ∧ (zZ4 f2_115) ∧ (-1 ≤ ft2_113.toInt) ∧ (0 ≤ nx2_112.toInt ∧ nx2_112.toInt ≤ 400) ∧ (0 ≤ bg2_111.toInt ∧ bg2_111.toInt ≤ 400) ∧ (zKd kd2_110.toInt bg2_111.toInt nx2_112.toInt) ∧ (1 = 0 ∨ 1 = 1) from ⟨b_pe, hq117_0, rf2_115, hq117_2, hq117_3, hq117_4, hq117_5, (by decide)⟩) hP hD
  · skip
    refine lv_if_eq (tgt := 17) hx hb dX10_readLine_9 (by decide) (fun c118 => absurd c118 (by decide)) (fun _ => ?_)
    refine lv_aload_n hx hb dX10_readLine_12 rfl (lv_at hl 0 rfl) ?_
    refine mcallV' (g := g) (q0 := 0) (ci := 8) (As := []) (rest := []) St hK hT hA hP hD hS hl.1 [0, 2, 1] [] rfl rfl rfl (c_tt_readPerson l g tt ta o ab sz ln kd bg nx ft fb a pe wo tx ch jo tr dy sd f b_pe b_wo rf hln hnx hbg hkd hft) (cwV 0 hts (zgL (zl4 k473 k474 k475 k476) k453) rfl rfl rfl (by decide +kernel) ⟨Nat.le_of_ble_eq_true rfl, Nat.le_of_ble_eq_true rfl⟩) rfl rfl rfl rfl (Nat.le_of_ble_eq_true rfl) dX10_readLine_13 ⟨(Nat.le_of_ble_eq_true rfl), (Nat.le_of_ble_eq_true rfl)⟩ (fun u_ H locs hq126 hP hD hS => ?_)
    obtain ⟨kd2_119, bg2_120, nx2_121, ft2_122, pe2_123, f2_124, q_125⟩ := u_
    replace hq126 : (0 ≤ pe2_123.toInt ∧ pe2_123.toInt ≤ 8) ∧ (zZ4 f2_124) ∧ (-1 ≤ ft2_122.toInt) ∧ (0 ≤ nx2_121.toInt ∧ nx2_121.toInt ≤ 400) ∧ (0 ≤ bg2_120.toInt ∧ bg2_120.toInt ≤ 400) ∧ (zKd kd2_119.toInt bg2_120.toInt nx2_121.toInt) ∧ (q_125 = 0 ∨ q_125 = 1) := hq126
    have hP : va_P g.1 vwCl (List.flatten [bTT g tt ta o, bTape g ta ab sz ln kd2_119 bg2_120 nx2_121 ft2_122 fb, bTown g o a pe2_123 wo tx ch jo tr dy sd f2_124]) H := hP
    have hD : va_D A (List.flatten [bTT g tt ta o, bTape g ta ab sz ln kd2_119 bg2_120 nx2_121 ft2_122 fb, bTown g o a pe2_123 wo tx ch jo tr dy sd f2_124]) := hD
    refine W.widen (k := 0) (n := 0) (Nat.le_of_ble_eq_true rfl) (Nat.le_of_ble_eq_true rfl) ?_
    refine W.eq (g2 := F0 m 16 ls [.int q_125]) rfl ?_
    obtain ⟨hq126_0, rf2_124, hq126_2, hq126_3, hq126_4, hq126_5, hq126_6⟩ := hq126
    rcases hq126_6 with rfl | rfl
    · skip
      have hP : va_P g.1 vwCl (List.flatten [bTT g tt ta o, bTape g ta ab sz ln kd2_119 bg2_120 nx2_121 ft2_122 fb, bTown g o a pe2_123 wo tx ch jo tr dy sd f2_124]) H := hP
      have hD : va_D A (List.flatten [bTT g tt ta o, bTape g ta ab sz ln kd2_119 bg2_120 nx2_121 ft2_122 fb, bTown g o a pe2_123 wo tx ch jo tr dy sd f2_124]) := hD
      exact mret_z hx hb hr hlocks hS (Nat.le_of_ble_eq_true rfl) (Nat.le_of_ble_eq_true rfl) dX10_readLine_16 (kd2_119, bg2_120, nx2_121, ft2_122, pe2_123, wo, ch, jo, tr, dy, f2_124, (0 : Int32)) rfl (by decide) (show (0 ≤ pe2_123.toInt ∧ pe2_123.toInt ≤ 8) ∧ (0 ≤ wo.toInt ∧ wo.toInt ≤ 6) ∧ (zZ4 f2_124) ∧ (-1 ≤ ft2_122.toInt) ∧ (0 ≤ nx2_121.toInt ∧ nx2_121.toInt ≤ 400) ∧ (0 ≤ bg2_120.toInt ∧ bg2_120.toInt ≤ 400) ∧ (zKd kd2_119.toInt bg2_120.toInt nx2_121.toInt) ∧ (0 = 0 ∨ 0 = 1) from ⟨hq126_0, b_wo, rf2_124, hq126_2, hq126_3, hq126_4, hq126_5, (by decide)⟩) hP hD
    · skip
      have hP : va_P g.1 vwCl (List.flatten [bTT g tt ta o, bTape g ta ab sz ln kd2_119 bg2_120 nx2_121 ft2_122 fb, bTown g o a pe2_123 wo tx ch jo tr dy sd f2_124]) H := hP
      have hD : va_D A (List.flatten [bTT g tt ta o, bTape g ta ab sz ln kd2_119 bg2_120 nx2_121 ft2_122 fb, bTown g o a pe2_123 wo tx ch jo tr dy sd f2_124]) := hD
      exact mret_z hx hb hr hlocks hS (Nat.le_of_ble_eq_true rfl) (Nat.le_of_ble_eq_true rfl) dX10_readLine_16 (kd2_119, bg2_120, nx2_121, ft2_122, pe2_123, wo, ch, jo, tr, dy, f2_124, (1 : Int32)) rfl (by decide) (show (0 ≤ pe2_123.toInt ∧ pe2_123.toInt ≤ 8) ∧ (0 ≤ wo.toInt ∧ wo.toInt ≤ 6) ∧ (zZ4 f2_124) ∧ (-1 ≤ ft2_122.toInt) ∧ (0 ≤ nx2_121.toInt ∧ nx2_121.toInt ≤ 400) ∧ (0 ≤ bg2_120.toInt ∧ bg2_120.toInt ≤ 400) ∧ (zKd kd2_119.toInt bg2_120.toInt nx2_121.toInt) ∧ (1 = 0 ∨ 1 = 1) from ⟨hq126_0, b_wo, rf2_124, hq126_2, hq126_3, hq126_4, hq126_5, (by decide)⟩) hP hD
set_option maxRecDepth 100000 in
set_option maxHeartbeats 4000000 in
theorem c_tt_readLines (l : Launch) (g : zG) (tt : Nat) (ta : Nat) (o : Nat) (ab : Nat) (sz : Int32) (ln : Int32) (kd : Int32) (bg : Int32) (nx : Int32) (ft : Int32) (fb : Nat → Int32) (a : Nat → Nat) (pe : Int32) (wo : Int32) (tx : Int32) (ch : Int32) (jo : Int32) (tr : Int32) (dy : Int32) (sd : Int32) (f : Nat → Nat → Int32) (mo : Int32) (b_pe : 0 ≤ pe.toInt ∧ pe.toInt ≤ 8) (b_wo : 0 ≤ wo.toInt ∧ wo.toInt ≤ 6) (rf : zZ4 f) (b_mo : 0 ≤ mo.toInt ∧ mo.toInt ≤ 20) (hln : 0 ≤ ln.toInt ∧ ln.toInt ≤ 400) (hnx : 0 ≤ nx.toInt ∧ nx.toInt ≤ 400) (hbg : 0 ≤ bg.toInt ∧ bg.toInt ≤ 400) (hkd : zKd kd.toInt bg.toInt nx.toInt) (hft : -1 ≤ ft.toInt) : zM' g l yX7_readLines (Cond.code yX7_readLines cX7_readLines 3 (some .int) :: zB) ({ frames := 9, cells := 0, slots := 0, locals := 193 } : Room) [.ref tt, .int mo] [bTT g tt ta o, bTape g ta ab sz ln kd bg nx ft fb, bTown g o a pe wo tx ch jo tr dy sd f] (fun u : Int32 × Int32 × Int32 × Int32 × Int32 × Int32 × Int32 × Int32 × Int32 × Int32 × (Nat → Nat → Int32) × Int32 => (fun (kd2 : Int32) (bg2 : Int32) (nx2 : Int32) (ft2 : Int32) (pe2 : Int32) (wo2 : Int32) (ch2 : Int32) (jo2 : Int32) (tr2 : Int32) (dy2 : Int32) (f2 : Nat → Nat → Int32) (q : Int32) => some (.int q)) (u.1) (u.2.1) (u.2.2.1) (u.2.2.2.1) (u.2.2.2.2.1) (u.2.2.2.2.2.1) (u.2.2.2.2.2.2.1) (u.2.2.2.2.2.2.2.1) (u.2.2.2.2.2.2.2.2.1) (u.2.2.2.2.2.2.2.2.2.1) (u.2.2.2.2.2.2.2.2.2.2.1) (u.2.2.2.2.2.2.2.2.2.2.2)) (fun u : Int32 × Int32 × Int32 × Int32 × Int32 × Int32 × Int32 × Int32 × Int32 × Int32 × (Nat → Nat → Int32) × Int32 => (fun (kd2 : Int32) (bg2 : Int32) (nx2 : Int32) (ft2 : Int32) (pe2 : Int32) (wo2 : Int32) (ch2 : Int32) (jo2 : Int32) (tr2 : Int32) (dy2 : Int32) (f2 : Nat → Nat → Int32) (q : Int32) => (0 ≤ pe2.toInt ∧ pe2.toInt ≤ 8) ∧ (0 ≤ wo2.toInt ∧ wo2.toInt ≤ 6) ∧ (zZ4 f2) ∧ (-1 ≤ ft2.toInt) ∧ (0 ≤ nx2.toInt ∧ nx2.toInt ≤ 400) ∧ (0 ≤ bg2.toInt ∧ bg2.toInt ≤ 400) ∧ (zKd kd2.toInt bg2.toInt nx2.toInt)) (u.1) (u.2.1) (u.2.2.1) (u.2.2.2.1) (u.2.2.2.2.1) (u.2.2.2.2.2.1) (u.2.2.2.2.2.2.1) (u.2.2.2.2.2.2.2.1) (u.2.2.2.2.2.2.2.2.1) (u.2.2.2.2.2.2.2.2.2.1) (u.2.2.2.2.2.2.2.2.2.2.1) (u.2.2.2.2.2.2.2.2.2.2.2)) (fun u : Int32 × Int32 × Int32 × Int32 × Int32 × Int32 × Int32 × Int32 × Int32 × Int32 × (Nat → Nat → Int32) × Int32 => (fun (kd2 : Int32) (bg2 : Int32) (nx2 : Int32) (ft2 : Int32) (pe2 : Int32) (wo2 : Int32) (ch2 : Int32) (jo2 : Int32) (tr2 : Int32) (dy2 : Int32) (f2 : Nat → Nat → Int32) (q : Int32) => [bTT g tt ta o, bTape g ta ab sz ln kd2 bg2 nx2 ft2 fb, bTown g o a pe2 wo2 tx ch2 jo2 tr2 dy2 sd f2]) (u.1) (u.2.1) (u.2.2.1) (u.2.2.2.1) (u.2.2.2.2.1) (u.2.2.2.2.2.1) (u.2.2.2.2.2.2.1) (u.2.2.2.2.2.2.2.1) (u.2.2.2.2.2.2.2.2.1) (u.2.2.2.2.2.2.2.2.2.1) (u.2.2.2.2.2.2.2.2.2.2.1) (u.2.2.2.2.2.2.2.2.2.2.2)) := by
  refine zM'.of (cc := cX7_readLines) (maxL := 3) (rt := (some .int)) (by decide) rfl (Nat.le_of_ble_eq_true rfl) ?_
  intro p e s m args below meth c A ls St hr hlocks hin hK hT hA hP hD hS hl
  obtain ⟨hx, hb, hml, hown, hts⟩ := id St
  have hl : lv_has ls 3 [(0, .ref tt), (1, .int mo)] := hl
  refine lv_aload_n hx hb dX7_readLines_0 rfl (lv_at hl 0 rfl) ?_
  refine va_get (D := g.1) (ci := 8) (v := .ref ta) (C := RX10) (T := TX10) (N := 2) hx hb hts izRX10 hown hK hP 0 rfl rfl 0 (by decide) (hts _ k206) (fun _ h9 => h9) rfl dX7_readLines_1 ?_
  refine va_get (D := g.1) (ci := 6) (v := .int kd) (C := RX6) (T := TX6) (N := 7) hx hb hts izRX6 hown hK hP 1 rfl rfl 3 (by decide) (hts _ k487) (fun _ h9 => h9) rfl dX7_readLines_4 ?_
  refine lv_if_ne (tgt := 12) hx hb dX7_readLines_7 (by decide) (fun cb9 => ?_) (fun cb9 => ?_)
  · skip
    have c1 : ¬ kd.toInt = 0 := zne cb9 rfl (by decide)
    refine lv_iconst (v := 1) hx hb dX7_readLines_12 (by decide) ?_
    refine lv_istore_n (lv' := [(2, .int 1), (0, .ref tt), (1, .int mo)]) hx hb dX7_readLines_13 rfl hl (by decide) rfl (fun ls hl => ?_)
    have hl := lv_sub (l' := [(0, .ref tt), (1, .int mo), (2, .int 1)]) hl [1, 2, 0] rfl
    have LP14_21 : ∀ (kf : Nat) (x_2 : Int32) (x_3 : Int32) (x_4 : Int32) (x_5 : Int32) (x_6 : Int32) (x_7 : Int32) (x_8 : Int32) (x_9 : Int32) (x_10 : Int32) (x_11 : Int32) (x_12 : Int32) (f_13 : Nat → Nat → Int32), (1 ≤ x_2.toInt ∧ x_2.toInt ≤ 21) → (0 ≤ x_4.toInt ∧ x_4.toInt ≤ 400) → (0 ≤ x_5.toInt ∧ x_5.toInt ≤ 400) → ((-1) ≤ x_6.toInt) → (0 ≤ x_7.toInt ∧ x_7.toInt ≤ 8) → (0 ≤ x_8.toInt ∧ x_8.toInt ≤ 6) → (zZ4 f_13) → (zKd x_3.toInt x_4.toInt x_5.toInt) → ∀ (H : Heap) (locs : List Loc) (ls : Array Slot), ((22 - x_2.toInt).toNat) < kf → va_P g.1 vwCl (List.flatten [bTT g tt ta o, bTape g ta ab sz ln x_3 x_4 x_5 x_6 fb, bTown g o a x_7 x_8 tx x_9 x_10 x_11 x_12 sd f_13]) H → va_D A (List.flatten [bTT g tt ta o, bTape g ta ab sz ln x_3 x_4 x_5 x_6 fb, bTown g o a x_7 x_8 tx x_9 x_10 x_11 x_12 sd f_13]) → va_S A s.heap H locs → lv_has ls 3 [(0, .ref tt), (1, .int mo), (2, .int x_2)] → W p l e ({ frames := 9, cells := 0, slots := 0, locals := 193 } : Room) s m args below meth c H locs (0) (0) (zF g (fun u : Int32 × Int32 × Int32 × Int32 × Int32 × Int32 × Int32 × Int32 × Int32 × Int32 × (Nat → Nat → Int32) × Int32 => (fun (kd2 : Int32) (bg2 : Int32) (nx2 : Int32) (ft2 : Int32) (pe2 : Int32) (wo2 : Int32) (ch2 : Int32) (jo2 : Int32) (tr2 : Int32) (dy2 : Int32) (f2 : Nat → Nat → Int32) (q : Int32) => some (.int q)) (u.1) (u.2.1) (u.2.2.1) (u.2.2.2.1) (u.2.2.2.2.1) (u.2.2.2.2.2.1) (u.2.2.2.2.2.2.1) (u.2.2.2.2.2.2.2.1) (u.2.2.2.2.2.2.2.2.1) (u.2.2.2.2.2.2.2.2.2.1) (u.2.2.2.2.2.2.2.2.2.2.1) (u.2.2.2.2.2.2.2.2.2.2.2)) (fun u : Int32 × Int32 × Int32 × Int32 × Int32 × Int32 × Int32 × Int32 × Int32 × Int32 × (Nat → Nat → Int32) × Int32 => (fun (kd2 : Int32) (bg2 : Int32) (nx2 : Int32) (ft2 : Int32) (pe2 : Int32) (wo2 : Int32) (ch2 : Int32) (jo2 : Int32) (tr2 : Int32) (dy2 : Int32) (f2 : Nat → Nat → Int32) (q : Int32) => (0 ≤ pe2.toInt ∧ pe2.toInt ≤ 8) ∧ (0 ≤ wo2.toInt ∧ wo2.toInt ≤ 6) ∧ (zZ4 f2) ∧ (-1 ≤ ft2.toInt) ∧ (0 ≤ nx2.toInt ∧ nx2.toInt ≤ 400) ∧ (0 ≤ bg2.toInt ∧ bg2.toInt ≤ 400) ∧ (zKd kd2.toInt bg2.toInt nx2.toInt)) (u.1) (u.2.1) (u.2.2.1) (u.2.2.2.1) (u.2.2.2.2.1) (u.2.2.2.2.2.1) (u.2.2.2.2.2.2.1) (u.2.2.2.2.2.2.2.1) (u.2.2.2.2.2.2.2.2.1) (u.2.2.2.2.2.2.2.2.2.1) (u.2.2.2.2.2.2.2.2.2.2.1) (u.2.2.2.2.2.2.2.2.2.2.2)) (fun u : Int32 × Int32 × Int32 × Int32 × Int32 × Int32 × Int32 × Int32 × Int32 × Int32 × (Nat → Nat → Int32) × Int32 => (fun (kd2 : Int32) (bg2 : Int32) (nx2 : Int32) (ft2 : Int32) (pe2 : Int32) (wo2 : Int32) (ch2 : Int32) (jo2 : Int32) (tr2 : Int32) (dy2 : Int32) (f2 : Nat → Nat → Int32) (q : Int32) => [bTT g tt ta o, bTape g ta ab sz ln kd2 bg2 nx2 ft2 fb, bTown g o a pe2 wo2 tx ch2 jo2 tr2 dy2 sd f2]) (u.1) (u.2.1) (u.2.2.1) (u.2.2.2.1) (u.2.2.2.2.1) (u.2.2.2.2.2.1) (u.2.2.2.2.2.2.1) (u.2.2.2.2.2.2.2.1) (u.2.2.2.2.2.2.2.2.1) (u.2.2.2.2.2.2.2.2.2.1) (u.2.2.2.2.2.2.2.2.2.2.1) (u.2.2.2.2.2.2.2.2.2.2.2)) ({ frames := 9, cells := 0, slots := 0, locals := 193 } : Room) below args s A) (F0 m 14 ls []) := by
      intro kf
      induction kf with
      | zero => intro x_2 x_3 x_4 x_5 x_6 x_7 x_8 x_9 x_10 x_11 x_12 f_13 i14 i15 i16 i17 i18 i19 rf_13 i20 H locs ls hk; exact absurd hk (Nat.not_lt_zero _)
      | succ kf ih14_22 =>
        intro x_2 x_3 x_4 x_5 x_6 x_7 x_8 x_9 x_10 x_11 x_12 f_13 i14 i15 i16 i17 i18 i19 rf_13 i20 H locs ls hk14_22 hP hD hS hl
        refine lv_iload_n hx hb dX7_readLines_14 rfl (lv_at hl 2 rfl) ?_
        refine lv_iload_n hx hb dX7_readLines_15 rfl (lv_at hl 1 rfl) ?_
        refine lv_icmp_gt (tgt := 60) hx hb dX7_readLines_16 (by decide) (fun cb9 => ?_) (fun cb9 => ?_)
        · skip
          have c23 : mo.toInt < x_2.toInt := zlti cb9 rfl rfl
          refine lv_aload_n hx hb dX7_readLines_60 rfl (lv_at hl 0 rfl) ?_
          refine va_get (D := g.1) (ci := 8) (v := .ref ta) (C := RX10) (T := TX10) (N := 2) hx hb hts izRX10 hown hK hP 0 rfl rfl 0 (by decide) (hts _ k206) (fun _ h9 => h9) rfl dX7_readLines_61 ?_
          refine mcallV' (g := g) (q0 := 0) (ci := 6) (As := []) (rest := []) St hK hT hA hP hD hS hl.1 [1] [0, 2] rfl rfl rfl (c_t_refuse l g ta ab sz ln x_3 x_4 x_5 x_6 fb hln i16 i15 i20 i17) (cwV 0 hts (zgL (zl4 k497 k279 k280 k277) k269) rfl rfl rfl (by decide +kernel) ⟨Nat.le_of_ble_eq_true rfl, Nat.le_of_ble_eq_true rfl⟩) rfl rfl rfl rfl (Nat.le_of_ble_eq_true rfl) dX7_readLines_64 ⟨(Nat.le_of_ble_eq_true rfl), (Nat.le_of_ble_eq_true rfl)⟩ (fun ft2_24 H locs hq25 hP hD hS => ?_)
          replace hq25 : (-1 ≤ ft2_24.toInt) := hq25
          have hP : va_P g.1 vwCl (List.flatten [bTT g tt ta o, bTown g o a x_7 x_8 tx x_9 x_10 x_11 x_12 sd f_13, bTape g ta ab sz ln x_3 x_4 x_5 ft2_24 fb]) H := hP
          have hD : va_D A (List.flatten [bTT g tt ta o, bTown g o a x_7 x_8 tx x_9 x_10 x_11 x_12 sd f_13, bTape g ta ab sz ln x_3 x_4 x_5 ft2_24 fb]) := hD
          refine W.widen (k := 0) (n := 0) (Nat.le_of_ble_eq_true rfl) (Nat.le_of_ble_eq_true rfl) ?_
          refine W.eq (g2 := F0 m 67 ls [.int 0]) rfl ?_
          refine lv_pop hx hb dX7_readLines_67 rfl ?_
          refine lv_iconst (v := (-1)) hx hb dX7_readLines_68 (by decide) ?_
          have hP : va_P g.1 vwCl (List.flatten [bTT g tt ta o, bTown g o a x_7 x_8 tx x_9 x_10 x_11 x_12 sd f_13, bTape g ta ab sz ln x_3 x_4 x_5 ft2_24 fb]) H := hP
          have hD : va_D A (List.flatten [bTT g tt ta o, bTown g o a x_7 x_8 tx x_9 x_10 x_11 x_12 sd f_13, bTape g ta ab sz ln x_3 x_4 x_5 ft2_24 fb]) := hD
          obtain ⟨hP, hD⟩ := zord (g := g) (Bs' := [bTT g tt ta o, bTape g ta ab sz ln x_3 x_4 x_5 ft2_24 fb, bTown g o a x_7 x_8 tx x_9 x_10 x_11 x_12 sd f_13]) [0, 2, 1] rfl rfl hP hD
          exact mret_i hx hb hr hlocks hS (Nat.le_of_ble_eq_true rfl) (Nat.le_of_ble_eq_true rfl) dX7_readLines_69 (x_3, x_4, x_5, ft2_24, x_7, x_8, x_9, x_10, x_11, x_12, f_13, -1) rfl (show (0 ≤ x_7.toInt ∧ x_7.toInt ≤ 8) ∧ (0 ≤ x_8.toInt ∧ x_8.toInt ≤ 6) ∧ (zZ4 f_13) ∧ (-1 ≤ ft2_24.toInt) ∧ (0 ≤ x_5.toInt ∧ x_5.toInt ≤ 400) ∧ (0 ≤ x_4.toInt ∧ x_4.toInt ≤ 400) ∧ (zKd x_3.toInt x_4.toInt x_5.toInt) from ⟨i18, i19, rf_13, hq25, i16, i15, i20⟩) hP hD
        · skip
          have c26 : x_2.toInt ≤ mo.toInt := zle (Int32.not_lt.mp cb9) rfl rfl
          have n27 : x_2.toInt ≤ 20 := Int.le_trans c26 b_mo.2
          have n28 : 1 ≤ mo.toInt := Int.le_trans i14.1 c26
          refine lv_aload_n hx hb dX7_readLines_19 rfl (lv_at hl 0 rfl) ?_
          refine mcallU' (g := g) (q0 := 0) (ci := 8) (As := []) (rest := []) St hK hT hA hP hD hS hl.1 [0, 1, 2] [] rfl rfl rfl (c_tt_readLine l g tt ta o ab sz ln x_3 x_4 x_5 x_6 fb a x_7 x_8 tx x_9 x_10 x_11 x_12 sd f_13 i18 i19 rf_13 hln i16 i15 i20 i17) (va_cwA (owner := "DryRiver$Text") (x := ⟨"DryRiver$Text", "readLine", "()Z"⟩) 0 hts (zgL (zl5 k488 k489 k492 k493 k476) k486) rfl rfl rfl hT.2.2 (by decide +kernel) ⟨Nat.le_of_ble_eq_true rfl, Nat.le_of_ble_eq_true rfl⟩) rfl rfl rfl rfl (Nat.le_of_ble_eq_true rfl) dX7_readLines_20 ⟨(Nat.le_of_ble_eq_true rfl), (Nat.le_of_ble_eq_true rfl)⟩ (fun u_ H locs hq41 hP hD hS => ?_)
          obtain ⟨kd2_29, bg2_30, nx2_31, ft2_32, pe2_33, wo2_34, ch2_35, jo2_36, tr2_37, dy2_38, f2_39, q_40⟩ := u_
          replace hq41 : (0 ≤ pe2_33.toInt ∧ pe2_33.toInt ≤ 8) ∧ (0 ≤ wo2_34.toInt ∧ wo2_34.toInt ≤ 6) ∧ (zZ4 f2_39) ∧ (-1 ≤ ft2_32.toInt) ∧ (0 ≤ nx2_31.toInt ∧ nx2_31.toInt ≤ 400) ∧ (0 ≤ bg2_30.toInt ∧ bg2_30.toInt ≤ 400) ∧ (zKd kd2_29.toInt bg2_30.toInt nx2_31.toInt) ∧ (q_40 = 0 ∨ q_40 = 1) := hq41
          have hP : va_P g.1 vwCl (List.flatten [bTT g tt ta o, bTape g ta ab sz ln kd2_29 bg2_30 nx2_31 ft2_32 fb, bTown g o a pe2_33 wo2_34 tx ch2_35 jo2_36 tr2_37 dy2_38 sd f2_39]) H := hP
          have hD : va_D A (List.flatten [bTT g tt ta o, bTape g ta ab sz ln kd2_29 bg2_30 nx2_31 ft2_32 fb, bTown g o a pe2_33 wo2_34 tx ch2_35 jo2_36 tr2_37 dy2_38 sd f2_39]) := hD
          refine W.widen (k := 0) (n := 0) (Nat.le_of_ble_eq_true rfl) (Nat.le_of_ble_eq_true rfl) ?_
          refine W.eq (g2 := F0 m 23 ls [.int q_40]) rfl ?_
          obtain ⟨hq41_0, hq41_1, rf2_39, hq41_3, hq41_4, hq41_5, hq41_6, hq41_7⟩ := hq41
          rcases hq41_7 with rfl | rfl
          · skip
            refine lv_if_ne (tgt := 28) hx hb dX7_readLines_23 (by decide) (fun c42 => absurd (by decide) c42) (fun _ => ?_)
            refine lv_iconst (v := (-1)) hx hb dX7_readLines_26 (by decide) ?_
            have hP : va_P g.1 vwCl (List.flatten [bTT g tt ta o, bTape g ta ab sz ln kd2_29 bg2_30 nx2_31 ft2_32 fb, bTown g o a pe2_33 wo2_34 tx ch2_35 jo2_36 tr2_37 dy2_38 sd f2_39]) H := hP
            have hD : va_D A (List.flatten [bTT g tt ta o, bTape g ta ab sz ln kd2_29 bg2_30 nx2_31 ft2_32 fb, bTown g o a pe2_33 wo2_34 tx ch2_35 jo2_36 tr2_37 dy2_38 sd f2_39]) := hD
            exact mret_i hx hb hr hlocks hS (Nat.le_of_ble_eq_true rfl) (Nat.le_of_ble_eq_true rfl) dX7_readLines_27 (kd2_29, bg2_30, nx2_31, ft2_32, pe2_33, wo2_34, ch2_35, jo2_36, tr2_37, dy2_38, f2_39, -1) rfl (show (0 ≤ pe2_33.toInt ∧ pe2_33.toInt ≤ 8) ∧ (0 ≤ wo2_34.toInt ∧ wo2_34.toInt ≤ 6) ∧ (zZ4 f2_39) ∧ (-1 ≤ ft2_32.toInt) ∧ (0 ≤ nx2_31.toInt ∧ nx2_31.toInt ≤ 400) ∧ (0 ≤ bg2_30.toInt ∧ bg2_30.toInt ≤ 400) ∧ (zKd kd2_29.toInt bg2_30.toInt nx2_31.toInt) from ⟨hq41_0, hq41_1, rf2_39, hq41_3, hq41_4, hq41_5, hq41_6⟩) hP hD
          · skip
            refine lv_if_ne (tgt := 28) hx hb dX7_readLines_23 (by decide) (fun _ => ?_) (fun c43 => absurd c43 (by decide))
            refine lv_aload_n hx hb dX7_readLines_28 rfl (lv_at hl 0 rfl) ?_
            refine va_get (D := g.1) (ci := 8) (v := .ref ta) (C := RX10) (T := TX10) (N := 2) hx hb hts izRX10 hown hK hP 0 rfl rfl 0 (by decide) (hts _ k206) (fun _ h9 => h9) rfl dX7_readLines_29 ?_
            refine va_get (D := g.1) (ci := 6) (v := .int kd2_29) (C := RX6) (T := TX6) (N := 7) hx hb hts izRX6 hown hK hP 1 rfl rfl 3 (by decide) (hts _ k487) (fun _ h9 => h9) rfl dX7_readLines_32 ?_
            refine lv_if_ne (tgt := 40) hx hb dX7_readLines_35 (by decide) (fun cb9 => ?_) (fun cb9 => ?_)
            · skip
              have c44 : ¬ kd2_29.toInt = 0 := zne cb9 rfl (by decide)
              refine lv_aload_n hx hb dX7_readLines_40 rfl (lv_at hl 0 rfl) ?_
              refine va_get (D := g.1) (ci := 8) (v := .ref ta) (C := RX10) (T := TX10) (N := 2) hx hb hts izRX10 hown hK hP 0 rfl rfl 0 (by decide) (hts _ k206) (fun _ h9 => h9) rfl dX7_readLines_41 ?_
              refine lv_bipush (v := 59) hx hb dX7_readLines_44 (by decide) ?_
              refine mcallV' (g := g) (q0 := 0) (ci := 6) (As := [.int 59]) (rest := []) St hK hT hA hP hD hS hl.1 [1] [0, 2] rfl rfl rfl (c_t_needSign l g ta ab sz ln kd2_29 bg2_30 nx2_31 ft2_32 fb 59 hln hq41_4 hq41_5 hq41_6 hq41_3) (cwV 1 hts (zgL (zl4 k494 k495 k496 k277) k432) rfl rfl rfl (by decide +kernel) ⟨Nat.le_of_ble_eq_true rfl, Nat.le_of_ble_eq_true rfl⟩) rfl rfl rfl rfl (Nat.le_of_ble_eq_true rfl) dX7_readLines_46 ⟨(Nat.le_of_ble_eq_true rfl), (Nat.le_of_ble_eq_true rfl)⟩ (fun u_ H locs hq50 hP hD hS => ?_)
              obtain ⟨kd2_45, bg2_46, nx2_47, ft2_48, q_49⟩ := u_
              replace hq50 : (0 ≤ nx2_47.toInt ∧ nx2_47.toInt ≤ 400) ∧ (0 ≤ bg2_46.toInt ∧ bg2_46.toInt ≤ 400) ∧ (zKd kd2_45.toInt bg2_46.toInt nx2_47.toInt) ∧ (-1 ≤ ft2_48.toInt) ∧ (q_49 = 0 ∨ q_49 = 1) := hq50
              have hP : va_P g.1 vwCl (List.flatten [bTT g tt ta o, bTown g o a pe2_33 wo2_34 tx ch2_35 jo2_36 tr2_37 dy2_38 sd f2_39, bTape g ta ab sz ln kd2_45 bg2_46 nx2_47 ft2_48 fb]) H := hP
              have hD : va_D A (List.flatten [bTT g tt ta o, bTown g o a pe2_33 wo2_34 tx ch2_35 jo2_36 tr2_37 dy2_38 sd f2_39, bTape g ta ab sz ln kd2_45 bg2_46 nx2_47 ft2_48 fb]) := hD
              refine W.widen (k := 0) (n := 0) (Nat.le_of_ble_eq_true rfl) (Nat.le_of_ble_eq_true rfl) ?_
              refine W.eq (g2 := F0 m 49 ls [.int q_49]) rfl ?_
              obtain ⟨hq50_0, hq50_1, hq50_2, hq50_3, hq50_4⟩ := hq50
              rcases hq50_4 with rfl | rfl
              · skip
                refine lv_if_ne (tgt := 54) hx hb dX7_readLines_49 (by decide) (fun c51 => absurd (by decide) c51) (fun _ => ?_)
                refine lv_iconst (v := (-1)) hx hb dX7_readLines_52 (by decide) ?_
                have hP : va_P g.1 vwCl (List.flatten [bTT g tt ta o, bTown g o a pe2_33 wo2_34 tx ch2_35 jo2_36 tr2_37 dy2_38 sd f2_39, bTape g ta ab sz ln kd2_45 bg2_46 nx2_47 ft2_48 fb]) H := hP
                have hD : va_D A (List.flatten [bTT g tt ta o, bTown g o a pe2_33 wo2_34 tx ch2_35 jo2_36 tr2_37 dy2_38 sd f2_39, bTape g ta ab sz ln kd2_45 bg2_46 nx2_47 ft2_48 fb]) := hD
                obtain ⟨hP, hD⟩ := zord (g := g) (Bs' := [bTT g tt ta o, bTape g ta ab sz ln kd2_45 bg2_46 nx2_47 ft2_48 fb, bTown g o a pe2_33 wo2_34 tx ch2_35 jo2_36 tr2_37 dy2_38 sd f2_39]) [0, 2, 1] rfl rfl hP hD
                exact mret_i hx hb hr hlocks hS (Nat.le_of_ble_eq_true rfl) (Nat.le_of_ble_eq_true rfl) dX7_readLines_53 (kd2_45, bg2_46, nx2_47, ft2_48, pe2_33, wo2_34, ch2_35, jo2_36, tr2_37, dy2_38, f2_39, -1) rfl (show (0 ≤ pe2_33.toInt ∧ pe2_33.toInt ≤ 8) ∧ (0 ≤ wo2_34.toInt ∧ wo2_34.toInt ≤ 6) ∧ (zZ4 f2_39) ∧ (-1 ≤ ft2_48.toInt) ∧ (0 ≤ nx2_47.toInt ∧ nx2_47.toInt ≤ 400) ∧ (0 ≤ bg2_46.toInt ∧ bg2_46.toInt ≤ 400) ∧ (zKd kd2_45.toInt bg2_46.toInt nx2_47.toInt) from ⟨hq41_0, hq41_1, rf2_39, hq50_3, hq50_0, hq50_1, hq50_2⟩) hP hD
              · skip
                refine lv_if_ne (tgt := 54) hx hb dX7_readLines_49 (by decide) (fun _ => ?_) (fun c52 => absurd c52 (by decide))
                refine ziinc3 (n' := 1) (a' := 2) (b' := 21) (lv' := fun v9 => [(2, .int v9), (0, .ref tt), (1, .int mo)]) hx hb dX7_readLines_54 hl (k := 2) rfl (by decide) (fun _ => rfl) (zaddK (i := x_2.toInt) (j := 1) rfl (by decide) i14.1 n27 (Int.le_refl _) (Int.le_refl _) (by decide)) (fun x_53 ls hx_53 hl => ?_)
                refine lv_goto (tgt := 14) hx hb dX7_readLines_57 (by decide) ?_
                have hl := lv_sub (l' := [(0, .ref tt), (1, .int mo), (2, .int x_53)]) hl [1, 2, 0] rfl
                have hP : va_P g.1 vwCl (List.flatten [bTT g tt ta o, bTown g o a pe2_33 wo2_34 tx ch2_35 jo2_36 tr2_37 dy2_38 sd f2_39, bTape g ta ab sz ln kd2_45 bg2_46 nx2_47 ft2_48 fb]) H := hP
                have hD : va_D A (List.flatten [bTT g tt ta o, bTown g o a pe2_33 wo2_34 tx ch2_35 jo2_36 tr2_37 dy2_38 sd f2_39, bTape g ta ab sz ln kd2_45 bg2_46 nx2_47 ft2_48 fb]) := hD
                obtain ⟨hP, hD⟩ := zord (g := g) (Bs' := [bTT g tt ta o, bTape g ta ab sz ln kd2_45 bg2_46 nx2_47 ft2_48 fb, bTown g o a pe2_33 wo2_34 tx ch2_35 jo2_36 tr2_37 dy2_38 sd f2_39]) [0, 2, 1] rfl rfl hP hD
                have hP : va_P g.1 vwCl (List.flatten [bTT g tt ta o, bTape g ta ab sz ln kd2_45 bg2_46 nx2_47 ft2_48 fb, bTown g o a pe2_33 wo2_34 tx ch2_35 jo2_36 tr2_37 dy2_38 sd f2_39]) H := hP
                have hD : va_D A (List.flatten [bTT g tt ta o, bTape g ta ab sz ln kd2_45 bg2_46 nx2_47 ft2_48 fb, bTown g o a pe2_33 wo2_34 tx ch2_35 jo2_36 tr2_37 dy2_38 sd f2_39]) := hD
                exact ih14_22 x_53 kd2_45 bg2_46 nx2_47 ft2_48 pe2_33 wo2_34 ch2_35 jo2_36 tr2_37 dy2_38 f2_39 ⟨(Int.le_trans (by decide) hx_53.2.1), hx_53.2.2⟩ ⟨hq50_1.1, hq50_1.2⟩ ⟨hq50_0.1, hq50_0.2⟩ (by first | omega | assumption | decide) ⟨hq41_0.1, hq41_0.2⟩ ⟨hq41_1.1, hq41_1.2⟩ rf2_39 hq50_2 H _ ls (zmK hx_53.1 (by decide) n27 (by decide) hk14_22)  hP hD hS (lv_sub hl [0, 1, 2] rfl)
            · skip
              have c54 : kd2_29.toInt = 0 := zeq cb9 rfl (by decide)
              have n55 : 0 ≤ kd2_29.toInt := Int.le_trans (Int.le_refl _) (Int.le_of_eq c54.symm)
              have n56 : kd2_29.toInt ≤ 0 := Int.le_trans (Int.le_of_eq c54) (Int.le_refl _)
              refine lv_iload_n hx hb dX7_readLines_38 rfl (lv_at hl 2 rfl) ?_
              have hP : va_P g.1 vwCl (List.flatten [bTT g tt ta o, bTape g ta ab sz ln kd2_29 bg2_30 nx2_31 ft2_32 fb, bTown g o a pe2_33 wo2_34 tx ch2_35 jo2_36 tr2_37 dy2_38 sd f2_39]) H := hP
              have hD : va_D A (List.flatten [bTT g tt ta o, bTape g ta ab sz ln kd2_29 bg2_30 nx2_31 ft2_32 fb, bTown g o a pe2_33 wo2_34 tx ch2_35 jo2_36 tr2_37 dy2_38 sd f2_39]) := hD
              exact mret_i hx hb hr hlocks hS (Nat.le_of_ble_eq_true rfl) (Nat.le_of_ble_eq_true rfl) dX7_readLines_39 (kd2_29, bg2_30, nx2_31, ft2_32, pe2_33, wo2_34, ch2_35, jo2_36, tr2_37, dy2_38, f2_39, x_2) rfl (show (0 ≤ pe2_33.toInt ∧ pe2_33.toInt ≤ 8) ∧ (0 ≤ wo2_34.toInt ∧ wo2_34.toInt ≤ 6) ∧ (zZ4 f2_39) ∧ (-1 ≤ ft2_32.toInt) ∧ (0 ≤ nx2_31.toInt ∧ nx2_31.toInt ≤ 400) ∧ (0 ≤ bg2_30.toInt ∧ bg2_30.toInt ≤ 400) ∧ (zKd kd2_29.toInt bg2_30.toInt nx2_31.toInt) from ⟨hq41_0, hq41_1, rf2_39, hq41_3, hq41_4, hq41_5, hq41_6⟩) hP hD
    have hL1 : (1 : Int32).toInt = 1 := by decide
    have hP : va_P g.1 vwCl (List.flatten [bTT g tt ta o, bTape g ta ab sz ln kd bg nx ft fb, bTown g o a pe wo tx ch jo tr dy sd f]) s.heap := hP
    have hD : va_D A (List.flatten [bTT g tt ta o, bTape g ta ab sz ln kd bg nx ft fb, bTown g o a pe wo tx ch jo tr dy sd f]) := hD
    exact LP14_21 _ 1 kd bg nx ft pe wo ch jo tr dy f (by decide) ⟨hbg.1, hbg.2⟩ ⟨hnx.1, hnx.2⟩ (by first | omega | assumption | decide) ⟨b_pe.1, b_pe.2⟩ ⟨b_wo.1, b_wo.2⟩ rf hkd s.heap _ ls (Nat.lt_succ_self _)  hP hD hS (lv_sub hl [0, 1, 2] rfl)
  · skip
    have c57 : kd.toInt = 0 := zeq cb9 rfl (by decide)
    have n58 : 0 ≤ kd.toInt := Int.le_trans (Int.le_refl _) (Int.le_of_eq c57.symm)
    have n59 : kd.toInt ≤ 0 := Int.le_trans (Int.le_of_eq c57) (Int.le_refl _)
    refine lv_iconst (v := 0) hx hb dX7_readLines_10 (by decide) ?_
    have hP : va_P g.1 vwCl (List.flatten [bTT g tt ta o, bTape g ta ab sz ln kd bg nx ft fb, bTown g o a pe wo tx ch jo tr dy sd f]) s.heap := hP
    have hD : va_D A (List.flatten [bTT g tt ta o, bTape g ta ab sz ln kd bg nx ft fb, bTown g o a pe wo tx ch jo tr dy sd f]) := hD
    exact mret_i hx hb hr hlocks hS (Nat.le_of_ble_eq_true rfl) (Nat.le_of_ble_eq_true rfl) dX7_readLines_11 (kd, bg, nx, ft, pe, wo, ch, jo, tr, dy, f, (0 : Int32)) rfl (show (0 ≤ pe.toInt ∧ pe.toInt ≤ 8) ∧ (0 ≤ wo.toInt ∧ wo.toInt ≤ 6) ∧ (zZ4 f) ∧ (-1 ≤ ft.toInt) ∧ (0 ≤ nx.toInt ∧ nx.toInt ≤ 400) ∧ (0 ≤ bg.toInt ∧ bg.toInt ≤ 400) ∧ (zKd kd.toInt bg.toInt nx.toInt) from ⟨b_pe, b_wo, rf, hft, hnx, hbg, hkd⟩) hP hD
set_option maxRecDepth 100000 in
set_option maxHeartbeats 4000000 in
theorem c_lt_readSum (l : Launch) (g : zG) (lt : Nat) (ta : Nat) (lo : Nat) (ab : Nat) (sz : Int32) (ln : Int32) (kd : Int32) (bg : Int32) (nx : Int32) (ft : Int32) (fb : Nat → Int32) (lc : Nat) (lz : Int32) (ll : Int32) (lm : Int32) (lg : Int32) (ld : Int32) (fc : Nat → Int32) (b_lz : 0 ≤ lz.toInt ∧ lz.toInt ≤ 400) (hln : 0 ≤ ln.toInt ∧ ln.toInt ≤ 400) (hnx : 0 ≤ nx.toInt ∧ nx.toInt ≤ 400) (hbg : 0 ≤ bg.toInt ∧ bg.toInt ≤ 400) (hkd : zKd kd.toInt bg.toInt nx.toInt) (hft : -1 ≤ ft.toInt) : zM' g l yX2_readSum (Cond.code yX2_readSum cX2_readSum 4 (some .boolean) :: zB) ({ frames := 5, cells := 0, slots := 0, locals := 107 } : Room) [.ref lt] [bLT g lt ta lo, bTape g ta ab sz ln kd bg nx ft fb, bLaw g lo lc lz ll lm lg ld fc] (fun u : Int32 × Int32 × Int32 × Int32 × Int32 × (Nat → Int32) × Int32 => (fun (kd2 : Int32) (bg2 : Int32) (nx2 : Int32) (ft2 : Int32) (lz2 : Int32) (fc2 : Nat → Int32) (q : Int32) => some (.int q)) (u.1) (u.2.1) (u.2.2.1) (u.2.2.2.1) (u.2.2.2.2.1) (u.2.2.2.2.2.1) (u.2.2.2.2.2.2)) (fun u : Int32 × Int32 × Int32 × Int32 × Int32 × (Nat → Int32) × Int32 => (fun (kd2 : Int32) (bg2 : Int32) (nx2 : Int32) (ft2 : Int32) (lz2 : Int32) (fc2 : Nat → Int32) (q : Int32) => (0 ≤ lz2.toInt ∧ lz2.toInt ≤ 400) ∧ (-1 ≤ ft2.toInt) ∧ (0 ≤ nx2.toInt ∧ nx2.toInt ≤ 400) ∧ (0 ≤ bg2.toInt ∧ bg2.toInt ≤ 400) ∧ (zKd kd2.toInt bg2.toInt nx2.toInt) ∧ (q = 0 ∨ q = 1)) (u.1) (u.2.1) (u.2.2.1) (u.2.2.2.1) (u.2.2.2.2.1) (u.2.2.2.2.2.1) (u.2.2.2.2.2.2)) (fun u : Int32 × Int32 × Int32 × Int32 × Int32 × (Nat → Int32) × Int32 => (fun (kd2 : Int32) (bg2 : Int32) (nx2 : Int32) (ft2 : Int32) (lz2 : Int32) (fc2 : Nat → Int32) (q : Int32) => [bLT g lt ta lo, bTape g ta ab sz ln kd2 bg2 nx2 ft2 fb, bLaw g lo lc lz2 ll lm lg ld fc2]) (u.1) (u.2.1) (u.2.2.1) (u.2.2.2.1) (u.2.2.2.2.1) (u.2.2.2.2.2.1) (u.2.2.2.2.2.2)) := by
  refine zM'.of (cc := cX2_readSum) (maxL := 4) (rt := (some .boolean)) (by decide) rfl (Nat.le_of_ble_eq_true rfl) ?_
  intro p e s m args below meth c A ls St hr hlocks hin hK hT hA hP hD hS hl
  obtain ⟨hx, hb, hml, hown, hts⟩ := id St
  have hl : lv_has ls 4 [(0, .ref lt)] := hl
  refine lv_iconst (v := 0) hx hb dX2_readSum_0 (by decide) ?_
  refine lv_istore_n (lv' := [(1, .int 0), (0, .ref lt)]) hx hb dX2_readSum_1 rfl hl (by decide) rfl (fun ls hl => ?_)
  have hl := lv_sub (l' := [(0, .ref lt), (1, .int 0)]) hl [1, 0] rfl
  have LP2_14 : ∀ (kf : Nat) (x_1 : Int32) (x_2 : Int32) (x_3 : Int32) (x_4 : Int32) (x_5 : Int32) (x_6 : Int32) (fc_7 : Nat → Int32), (0 ≤ x_1.toInt ∧ x_1.toInt ≤ 400) → (0 ≤ x_3.toInt ∧ x_3.toInt ≤ 400) → (0 ≤ x_4.toInt ∧ x_4.toInt ≤ 400) → ((-1) ≤ x_5.toInt) → (0 ≤ x_6.toInt ∧ x_6.toInt ≤ 400) → (zKd x_2.toInt x_3.toInt x_4.toInt) → ∀ (H : Heap) (locs : List Loc) (ls : Array Slot), ((401 - x_1.toInt).toNat) < kf → va_P g.1 vwCl (List.flatten [bLT g lt ta lo, bTape g ta ab sz ln x_2 x_3 x_4 x_5 fb, bLaw g lo lc x_6 ll lm lg ld fc_7]) H → va_D A (List.flatten [bLT g lt ta lo, bTape g ta ab sz ln x_2 x_3 x_4 x_5 fb, bLaw g lo lc x_6 ll lm lg ld fc_7]) → va_S A s.heap H locs → lv_has ls 4 [(0, .ref lt), (1, .int x_1)] → W p l e ({ frames := 5, cells := 0, slots := 0, locals := 107 } : Room) s m args below meth c H locs (0) (0) (zF g (fun u : Int32 × Int32 × Int32 × Int32 × Int32 × (Nat → Int32) × Int32 => (fun (kd2 : Int32) (bg2 : Int32) (nx2 : Int32) (ft2 : Int32) (lz2 : Int32) (fc2 : Nat → Int32) (q : Int32) => some (.int q)) (u.1) (u.2.1) (u.2.2.1) (u.2.2.2.1) (u.2.2.2.2.1) (u.2.2.2.2.2.1) (u.2.2.2.2.2.2)) (fun u : Int32 × Int32 × Int32 × Int32 × Int32 × (Nat → Int32) × Int32 => (fun (kd2 : Int32) (bg2 : Int32) (nx2 : Int32) (ft2 : Int32) (lz2 : Int32) (fc2 : Nat → Int32) (q : Int32) => (0 ≤ lz2.toInt ∧ lz2.toInt ≤ 400) ∧ (-1 ≤ ft2.toInt) ∧ (0 ≤ nx2.toInt ∧ nx2.toInt ≤ 400) ∧ (0 ≤ bg2.toInt ∧ bg2.toInt ≤ 400) ∧ (zKd kd2.toInt bg2.toInt nx2.toInt) ∧ (q = 0 ∨ q = 1)) (u.1) (u.2.1) (u.2.2.1) (u.2.2.2.1) (u.2.2.2.2.1) (u.2.2.2.2.2.1) (u.2.2.2.2.2.2)) (fun u : Int32 × Int32 × Int32 × Int32 × Int32 × (Nat → Int32) × Int32 => (fun (kd2 : Int32) (bg2 : Int32) (nx2 : Int32) (ft2 : Int32) (lz2 : Int32) (fc2 : Nat → Int32) (q : Int32) => [bLT g lt ta lo, bTape g ta ab sz ln kd2 bg2 nx2 ft2 fb, bLaw g lo lc lz2 ll lm lg ld fc2]) (u.1) (u.2.1) (u.2.2.1) (u.2.2.2.1) (u.2.2.2.2.1) (u.2.2.2.2.2.1) (u.2.2.2.2.2.2)) ({ frames := 5, cells := 0, slots := 0, locals := 107 } : Room) below args s A) (F0 m 2 ls []) := by
    intro kf
    induction kf with
    | zero => intro x_1 x_2 x_3 x_4 x_5 x_6 fc_7 i8 i9 i10 i11 i12 i13 H locs ls hk; exact absurd hk (Nat.not_lt_zero _)
    | succ kf ih2_15 =>
      intro x_1 x_2 x_3 x_4 x_5 x_6 fc_7 i8 i9 i10 i11 i12 i13 H locs ls hk2_15 hP hD hS hl
      refine lv_iload_n hx hb dX2_readSum_2 rfl (lv_at hl 1 rfl) ?_
      refine lv_sipush (v := 400) hx hb dX2_readSum_3 (by decide) ?_
      refine lv_icmp_ge (tgt := 170) hx hb dX2_readSum_6 (by decide) (fun cb9 => ?_) (fun cb9 => ?_)
      · skip
        have c16 : 400 ≤ x_1.toInt := zle cb9 (by decide) rfl
        have n17 : 400 ≤ x_1.toInt := Int.le_trans (Int.le_refl _) c16
        refine lv_aload_n hx hb dX2_readSum_170 rfl (lv_at hl 0 rfl) ?_
        refine va_get (D := g.1) (ci := 2) (v := .ref ta) (C := RX2) (T := TX2) (N := 2) hx hb hts izRX2 hown hK hP 0 rfl rfl 0 (by decide) (hts _ k290) (fun x9 h9 => u_same (hts _ k291) x9 h9) rfl dX2_readSum_171 ?_
        refine mcallV' (g := g) (q0 := 0) (ci := 6) (As := []) (rest := []) St hK hT hA hP hD hS hl.1 [1] [0, 2] rfl rfl rfl (c_t_refuse l g ta ab sz ln x_2 x_3 x_4 x_5 fb hln i10 i9 i13 i11) (cwV 0 hts (zgL (zl4 k303 k279 k280 k277) k269) rfl rfl rfl (by decide +kernel) ⟨Nat.le_of_ble_eq_true rfl, Nat.le_of_ble_eq_true rfl⟩) rfl rfl rfl rfl (Nat.le_of_ble_eq_true rfl) dX2_readSum_174 ⟨(Nat.le_of_ble_eq_true rfl), (Nat.le_of_ble_eq_true rfl)⟩ (fun ft2_18 H locs hq19 hP hD hS => ?_)
        replace hq19 : (-1 ≤ ft2_18.toInt) := hq19
        have hP : va_P g.1 vwCl (List.flatten [bLT g lt ta lo, bLaw g lo lc x_6 ll lm lg ld fc_7, bTape g ta ab sz ln x_2 x_3 x_4 ft2_18 fb]) H := hP
        have hD : va_D A (List.flatten [bLT g lt ta lo, bLaw g lo lc x_6 ll lm lg ld fc_7, bTape g ta ab sz ln x_2 x_3 x_4 ft2_18 fb]) := hD
        refine W.widen (k := 0) (n := 0) (Nat.le_of_ble_eq_true rfl) (Nat.le_of_ble_eq_true rfl) ?_
        refine W.eq (g2 := F0 m 177 ls [.int 0]) rfl ?_
        have hP : va_P g.1 vwCl (List.flatten [bLT g lt ta lo, bLaw g lo lc x_6 ll lm lg ld fc_7, bTape g ta ab sz ln x_2 x_3 x_4 ft2_18 fb]) H := hP
        have hD : va_D A (List.flatten [bLT g lt ta lo, bLaw g lo lc x_6 ll lm lg ld fc_7, bTape g ta ab sz ln x_2 x_3 x_4 ft2_18 fb]) := hD
        obtain ⟨hP, hD⟩ := zord (g := g) (Bs' := [bLT g lt ta lo, bTape g ta ab sz ln x_2 x_3 x_4 ft2_18 fb, bLaw g lo lc x_6 ll lm lg ld fc_7]) [0, 2, 1] rfl rfl hP hD
        exact mret_z hx hb hr hlocks hS (Nat.le_of_ble_eq_true rfl) (Nat.le_of_ble_eq_true rfl) dX2_readSum_177 (x_2, x_3, x_4, ft2_18, x_6, fc_7, (0 : Int32)) rfl (by decide) (show (0 ≤ x_6.toInt ∧ x_6.toInt ≤ 400) ∧ (-1 ≤ ft2_18.toInt) ∧ (0 ≤ x_4.toInt ∧ x_4.toInt ≤ 400) ∧ (0 ≤ x_3.toInt ∧ x_3.toInt ≤ 400) ∧ (zKd x_2.toInt x_3.toInt x_4.toInt) ∧ (0 = 0 ∨ 0 = 1) from ⟨i12, hq19, i10, i9, i13, (by decide)⟩) hP hD
      · skip
        have c20 : x_1.toInt < 400 := zlti (Int32.not_le.mp cb9) rfl (by decide)
        have n21 : x_1.toInt ≤ 399 := zL1 (b := 400) c20 (Int.le_refl _) (by decide)
        refine lv_aload_n hx hb dX2_readSum_9 rfl (lv_at hl 0 rfl) ?_
        refine va_get (D := g.1) (ci := 2) (v := .ref ta) (C := RX2) (T := TX2) (N := 2) hx hb hts izRX2 hown hK hP 0 rfl rfl 0 (by decide) (hts _ k290) (fun x9 h9 => u_same (hts _ k291) x9 h9) rfl dX2_readSum_10 ?_
        refine va_ldcS (q := g.2 26) hx hb hown (zra8 hT.2.1) dX2_readSum_13 ?_
        refine mcallV' (g := g) (q0 := 0) (ci := 6) (As := [.ref (g.2 26)]) (rest := []) St hK hT hA hP hD hS hl.1 [1] [0, 2] rfl rfl rfl (c_t_isWord l g ta ab sz ln x_2 x_3 x_4 x_5 fb (g.2 26) 8 zqa8 hln i10 i9 i13 i11 rfl zla8 zna8) (cwV 1 hts (zgL (zl4 k292 k282 k283 k277) k268) rfl rfl rfl (by decide +kernel) ⟨Nat.le_of_ble_eq_true rfl, Nat.le_of_ble_eq_true rfl⟩) rfl rfl rfl rfl (Nat.le_of_ble_eq_true rfl) dX2_readSum_15 ⟨(Nat.le_of_ble_eq_true rfl), (Nat.le_of_ble_eq_true rfl)⟩ (fun r_22 H locs hq23 hP hD hS => ?_)
        replace hq23 : (r_22 = 0 ∨ r_22 = 1) := hq23
        have hP : va_P g.1 vwCl (List.flatten [bLT g lt ta lo, bLaw g lo lc x_6 ll lm lg ld fc_7, bTape g ta ab sz ln x_2 x_3 x_4 x_5 fb]) H := hP
        have hD : va_D A (List.flatten [bLT g lt ta lo, bLaw g lo lc x_6 ll lm lg ld fc_7, bTape g ta ab sz ln x_2 x_3 x_4 x_5 fb]) := hD
        refine W.widen (k := 0) (n := 0) (Nat.le_of_ble_eq_true rfl) (Nat.le_of_ble_eq_true rfl) ?_
        refine W.eq (g2 := F0 m 18 ls [.int r_22]) rfl ?_
        rcases hq23 with rfl | rfl
        · skip
          refine lv_if_eq (tgt := 25) hx hb dX2_readSum_18 (by decide) (fun _ => ?_) (fun c24 => absurd (by decide) c24)
          refine lv_aload_n hx hb dX2_readSum_25 rfl (lv_at hl 0 rfl) ?_
          refine va_get (D := g.1) (ci := 2) (v := .ref ta) (C := RX2) (T := TX2) (N := 2) hx hb hts izRX2 hown hK hP 0 rfl rfl 0 (by decide) (hts _ k290) (fun x9 h9 => u_same (hts _ k291) x9 h9) rfl dX2_readSum_26 ?_
          refine va_ldcS (q := g.2 28) hx hb hown (zra9 hT.2.1) dX2_readSum_29 ?_
          refine mcallV' (g := g) (q0 := 0) (ci := 6) (As := [.ref (g.2 28)]) (rest := []) St hK hT hA hP hD hS hl.1 [2] [0, 1] rfl rfl rfl (c_t_isWord l g ta ab sz ln x_2 x_3 x_4 x_5 fb (g.2 28) 9 zqa9 hln i10 i9 i13 i11 rfl zla9 zna9) (cwV 1 hts (zgL (zl4 k292 k282 k283 k277) k268) rfl rfl rfl (by decide +kernel) ⟨Nat.le_of_ble_eq_true rfl, Nat.le_of_ble_eq_true rfl⟩) rfl rfl rfl rfl (Nat.le_of_ble_eq_true rfl) dX2_readSum_31 ⟨(Nat.le_of_ble_eq_true rfl), (Nat.le_of_ble_eq_true rfl)⟩ (fun r_25 H locs hq26 hP hD hS => ?_)
          replace hq26 : (r_25 = 0 ∨ r_25 = 1) := hq26
          have hP : va_P g.1 vwCl (List.flatten [bLT g lt ta lo, bLaw g lo lc x_6 ll lm lg ld fc_7, bTape g ta ab sz ln x_2 x_3 x_4 x_5 fb]) H := hP
          have hD : va_D A (List.flatten [bLT g lt ta lo, bLaw g lo lc x_6 ll lm lg ld fc_7, bTape g ta ab sz ln x_2 x_3 x_4 x_5 fb]) := hD
          refine W.widen (k := 0) (n := 0) (Nat.le_of_ble_eq_true rfl) (Nat.le_of_ble_eq_true rfl) ?_
          refine W.eq (g2 := F0 m 34 ls [.int r_25]) rfl ?_
          rcases hq26 with rfl | rfl
          · skip
            refine lv_if_eq (tgt := 41) hx hb dX2_readSum_34 (by decide) (fun _ => ?_) (fun c27 => absurd (by decide) c27)
            refine lv_aload_n hx hb dX2_readSum_41 rfl (lv_at hl 0 rfl) ?_
            refine va_get (D := g.1) (ci := 2) (v := .ref ta) (C := RX2) (T := TX2) (N := 2) hx hb hts izRX2 hown hK hP 0 rfl rfl 0 (by decide) (hts _ k290) (fun x9 h9 => u_same (hts _ k291) x9 h9) rfl dX2_readSum_42 ?_
            refine va_ldcS (q := g.2 30) hx hb hown (zra10 hT.2.1) dX2_readSum_45 ?_
            refine mcallV' (g := g) (q0 := 0) (ci := 6) (As := [.ref (g.2 30)]) (rest := []) St hK hT hA hP hD hS hl.1 [2] [0, 1] rfl rfl rfl (c_t_isWord l g ta ab sz ln x_2 x_3 x_4 x_5 fb (g.2 30) 10 zqa10 hln i10 i9 i13 i11 rfl zla10 zna10) (cwV 1 hts (zgL (zl4 k292 k282 k283 k277) k268) rfl rfl rfl (by decide +kernel) ⟨Nat.le_of_ble_eq_true rfl, Nat.le_of_ble_eq_true rfl⟩) rfl rfl rfl rfl (Nat.le_of_ble_eq_true rfl) dX2_readSum_47 ⟨(Nat.le_of_ble_eq_true rfl), (Nat.le_of_ble_eq_true rfl)⟩ (fun r_28 H locs hq29 hP hD hS => ?_)
            replace hq29 : (r_28 = 0 ∨ r_28 = 1) := hq29
            have hP : va_P g.1 vwCl (List.flatten [bLT g lt ta lo, bLaw g lo lc x_6 ll lm lg ld fc_7, bTape g ta ab sz ln x_2 x_3 x_4 x_5 fb]) H := hP
            have hD : va_D A (List.flatten [bLT g lt ta lo, bLaw g lo lc x_6 ll lm lg ld fc_7, bTape g ta ab sz ln x_2 x_3 x_4 x_5 fb]) := hD
            refine W.widen (k := 0) (n := 0) (Nat.le_of_ble_eq_true rfl) (Nat.le_of_ble_eq_true rfl) ?_
            refine W.eq (g2 := F0 m 50 ls [.int r_28]) rfl ?_
            rcases hq29 with rfl | rfl
            · skip
              refine lv_if_eq (tgt := 57) hx hb dX2_readSum_50 (by decide) (fun _ => ?_) (fun c30 => absurd (by decide) c30)
              refine lv_aload_n hx hb dX2_readSum_57 rfl (lv_at hl 0 rfl) ?_
              refine va_get (D := g.1) (ci := 2) (v := .ref ta) (C := RX2) (T := TX2) (N := 2) hx hb hts izRX2 hown hK hP 0 rfl rfl 0 (by decide) (hts _ k290) (fun x9 h9 => u_same (hts _ k291) x9 h9) rfl dX2_readSum_58 ?_
              refine va_ldcS (q := g.2 32) hx hb hown (zra11 hT.2.1) dX2_readSum_61 ?_
              refine mcallV' (g := g) (q0 := 0) (ci := 6) (As := [.ref (g.2 32)]) (rest := []) St hK hT hA hP hD hS hl.1 [2] [0, 1] rfl rfl rfl (c_t_isWord l g ta ab sz ln x_2 x_3 x_4 x_5 fb (g.2 32) 11 zqa11 hln i10 i9 i13 i11 rfl zla11 zna11) (cwV 1 hts (zgL (zl4 k292 k282 k283 k277) k268) rfl rfl rfl (by decide +kernel) ⟨Nat.le_of_ble_eq_true rfl, Nat.le_of_ble_eq_true rfl⟩) rfl rfl rfl rfl (Nat.le_of_ble_eq_true rfl) dX2_readSum_63 ⟨(Nat.le_of_ble_eq_true rfl), (Nat.le_of_ble_eq_true rfl)⟩ (fun r_31 H locs hq32 hP hD hS => ?_)
              replace hq32 : (r_31 = 0 ∨ r_31 = 1) := hq32
              have hP : va_P g.1 vwCl (List.flatten [bLT g lt ta lo, bLaw g lo lc x_6 ll lm lg ld fc_7, bTape g ta ab sz ln x_2 x_3 x_4 x_5 fb]) H := hP
              have hD : va_D A (List.flatten [bLT g lt ta lo, bLaw g lo lc x_6 ll lm lg ld fc_7, bTape g ta ab sz ln x_2 x_3 x_4 x_5 fb]) := hD
              refine W.widen (k := 0) (n := 0) (Nat.le_of_ble_eq_true rfl) (Nat.le_of_ble_eq_true rfl) ?_
              refine W.eq (g2 := F0 m 66 ls [.int r_31]) rfl ?_
              rcases hq32 with rfl | rfl
              · skip
                refine lv_if_eq (tgt := 73) hx hb dX2_readSum_66 (by decide) (fun _ => ?_) (fun c33 => absurd (by decide) c33)
                refine lv_aload_n hx hb dX2_readSum_73 rfl (lv_at hl 0 rfl) ?_
                refine va_get (D := g.1) (ci := 2) (v := .ref ta) (C := RX2) (T := TX2) (N := 2) hx hb hts izRX2 hown hK hP 0 rfl rfl 0 (by decide) (hts _ k290) (fun x9 h9 => u_same (hts _ k291) x9 h9) rfl dX2_readSum_74 ?_
                refine va_ldcS (q := g.2 34) hx hb hown (zra12 hT.2.1) dX2_readSum_77 ?_
                refine mcallV' (g := g) (q0 := 0) (ci := 6) (As := [.ref (g.2 34)]) (rest := []) St hK hT hA hP hD hS hl.1 [2] [0, 1] rfl rfl rfl (c_t_isWord l g ta ab sz ln x_2 x_3 x_4 x_5 fb (g.2 34) 12 zqa12 hln i10 i9 i13 i11 rfl zla12 zna12) (cwV 1 hts (zgL (zl4 k292 k282 k283 k277) k268) rfl rfl rfl (by decide +kernel) ⟨Nat.le_of_ble_eq_true rfl, Nat.le_of_ble_eq_true rfl⟩) rfl rfl rfl rfl (Nat.le_of_ble_eq_true rfl) dX2_readSum_79 ⟨(Nat.le_of_ble_eq_true rfl), (Nat.le_of_ble_eq_true rfl)⟩ (fun r_34 H locs hq35 hP hD hS => ?_)
                replace hq35 : (r_34 = 0 ∨ r_34 = 1) := hq35
                have hP : va_P g.1 vwCl (List.flatten [bLT g lt ta lo, bLaw g lo lc x_6 ll lm lg ld fc_7, bTape g ta ab sz ln x_2 x_3 x_4 x_5 fb]) H := hP
                have hD : va_D A (List.flatten [bLT g lt ta lo, bLaw g lo lc x_6 ll lm lg ld fc_7, bTape g ta ab sz ln x_2 x_3 x_4 x_5 fb]) := hD
                refine W.widen (k := 0) (n := 0) (Nat.le_of_ble_eq_true rfl) (Nat.le_of_ble_eq_true rfl) ?_
                refine W.eq (g2 := F0 m 82 ls [.int r_34]) rfl ?_
                rcases hq35 with rfl | rfl
                · skip
                  refine lv_if_eq (tgt := 89) hx hb dX2_readSum_82 (by decide) (fun _ => ?_) (fun c36 => absurd (by decide) c36)
                  refine lv_aload_n hx hb dX2_readSum_89 rfl (lv_at hl 0 rfl) ?_
                  refine va_get (D := g.1) (ci := 2) (v := .ref ta) (C := RX2) (T := TX2) (N := 2) hx hb hts izRX2 hown hK hP 0 rfl rfl 0 (by decide) (hts _ k290) (fun x9 h9 => u_same (hts _ k291) x9 h9) rfl dX2_readSum_90 ?_
                  refine va_ldcS (q := g.2 36) hx hb hown (zra13 hT.2.1) dX2_readSum_93 ?_
                  refine mcallV' (g := g) (q0 := 0) (ci := 6) (As := [.ref (g.2 36)]) (rest := []) St hK hT hA hP hD hS hl.1 [2] [0, 1] rfl rfl rfl (c_t_isWord l g ta ab sz ln x_2 x_3 x_4 x_5 fb (g.2 36) 13 zqa13 hln i10 i9 i13 i11 rfl zla13 zna13) (cwV 1 hts (zgL (zl4 k292 k282 k283 k277) k268) rfl rfl rfl (by decide +kernel) ⟨Nat.le_of_ble_eq_true rfl, Nat.le_of_ble_eq_true rfl⟩) rfl rfl rfl rfl (Nat.le_of_ble_eq_true rfl) dX2_readSum_95 ⟨(Nat.le_of_ble_eq_true rfl), (Nat.le_of_ble_eq_true rfl)⟩ (fun r_37 H locs hq38 hP hD hS => ?_)
                  replace hq38 : (r_37 = 0 ∨ r_37 = 1) := hq38
                  have hP : va_P g.1 vwCl (List.flatten [bLT g lt ta lo, bLaw g lo lc x_6 ll lm lg ld fc_7, bTape g ta ab sz ln x_2 x_3 x_4 x_5 fb]) H := hP
                  have hD : va_D A (List.flatten [bLT g lt ta lo, bLaw g lo lc x_6 ll lm lg ld fc_7, bTape g ta ab sz ln x_2 x_3 x_4 x_5 fb]) := hD
                  refine W.widen (k := 0) (n := 0) (Nat.le_of_ble_eq_true rfl) (Nat.le_of_ble_eq_true rfl) ?_
                  refine W.eq (g2 := F0 m 98 ls [.int r_37]) rfl ?_
                  rcases hq38 with rfl | rfl
                  · skip
                    refine lv_if_eq (tgt := 106) hx hb dX2_readSum_98 (by decide) (fun _ => ?_) (fun c39 => absurd (by decide) c39)
                    refine lv_iconst (v := 0) hx hb dX2_readSum_106 (by decide) ?_
                    refine lv_istore_n (lv' := [(2, .int 0), (0, .ref lt), (1, .int x_1)]) hx hb dX2_readSum_107 rfl hl (by decide) rfl (fun ls hl => ?_)
                    refine lv_iconst (v := 0) hx hb dX2_readSum_108 (by decide) ?_
                    refine lv_istore_n (lv' := [(3, .int 0), (2, .int 0), (0, .ref lt), (1, .int x_1)]) hx hb dX2_readSum_109 rfl hl (by decide) rfl (fun ls hl => ?_)
                    refine lv_iload_n hx hb dX2_readSum_110 rfl (lv_at hl 1 rfl) ?_
                    refine lv_if_ne (tgt := 133) hx hb dX2_readSum_111 (by decide) (fun c40 => absurd (by decide) c40) (fun _ => ?_)
                    refine lv_aload_n hx hb dX2_readSum_114 rfl (lv_at hl 2 rfl) ?_
                    refine va_get (D := g.1) (ci := 2) (v := .ref ta) (C := RX2) (T := TX2) (N := 2) hx hb hts izRX2 hown hK hP 0 rfl rfl 0 (by decide) (hts _ k290) (fun x9 h9 => u_same (hts _ k291) x9 h9) rfl dX2_readSum_115 ?_
                    refine lv_iconst (v := 0) hx hb dX2_readSum_118 (by decide) ?_
                    refine lv_sipush (v := 999) hx hb dX2_readSum_119 (by decide) ?_
                    have hL0 : (0 : Int32).toInt = 0 := by decide
                    have hL999 : (999 : Int32).toInt = 999 := by decide
                    refine mcallV' (g := g) (q0 := 0) (ci := 6) (As := [.int 0, .int 999]) (rest := []) St hK hT hA hP hD hS hl.1 [2] [0, 1] rfl rfl rfl (c_t_number l g ta ab sz ln x_2 x_3 x_4 x_5 fb 0 999 hln i10 i9 i13 i11) (cwV 2 hts (zgL (zl4 k293 k294 k295 k277) k273) rfl rfl rfl (by decide +kernel) ⟨Nat.le_of_ble_eq_true rfl, Nat.le_of_ble_eq_true rfl⟩) rfl rfl rfl rfl (Nat.le_of_ble_eq_true rfl) dX2_readSum_122 ⟨(Nat.le_of_ble_eq_true rfl), (Nat.le_of_ble_eq_true rfl)⟩ (fun u_ H locs hq46 hP hD hS => ?_)
                    obtain ⟨kd2_41, bg2_42, nx2_43, ft2_44, q_45⟩ := u_
                    replace hq46 : (0 ≤ nx2_43.toInt ∧ nx2_43.toInt ≤ 400) ∧ (0 ≤ bg2_42.toInt ∧ bg2_42.toInt ≤ 400) ∧ (zKd kd2_41.toInt bg2_42.toInt nx2_43.toInt) ∧ (-1 ≤ ft2_44.toInt) ∧ (zImp (¬ q_45.toInt = -1) ((0 : Int32).toInt ≤ q_45.toInt ∧ q_45.toInt ≤ (999 : Int32).toInt)) := hq46
                    have hP : va_P g.1 vwCl (List.flatten [bLT g lt ta lo, bLaw g lo lc x_6 ll lm lg ld fc_7, bTape g ta ab sz ln kd2_41 bg2_42 nx2_43 ft2_44 fb]) H := hP
                    have hD : va_D A (List.flatten [bLT g lt ta lo, bLaw g lo lc x_6 ll lm lg ld fc_7, bTape g ta ab sz ln kd2_41 bg2_42 nx2_43 ft2_44 fb]) := hD
                    refine W.widen (k := 0) (n := 0) (Nat.le_of_ble_eq_true rfl) (Nat.le_of_ble_eq_true rfl) ?_
                    refine W.eq (g2 := F0 m 125 ls [.int q_45]) rfl ?_
                    obtain ⟨hq46_0, hq46_1, hq46_2, hq46_3, hq46_4⟩ := hq46
                    refine lv_istore_n (lv' := [(3, .int q_45), (2, .int 0), (0, .ref lt), (1, .int x_1)]) hx hb dX2_readSum_125 rfl hl (by decide) rfl (fun ls hl => ?_)
                    refine lv_iload_n hx hb dX2_readSum_126 rfl (lv_at hl 0 rfl) ?_
                    refine lv_iconst (v := (-1)) hx hb dX2_readSum_127 (by decide) ?_
                    refine lv_icmp_ne (tgt := 140) hx hb dX2_readSum_128 (by decide) (fun cb9 => ?_) (fun cb9 => ?_)
                    · skip
                      have c47 : ¬ q_45.toInt = (-1) := zne cb9 rfl (by decide)
                      have w48 := hq46_4 c47
                      have w49 : 0 ≤ q_45.toInt ∧ q_45.toInt ≤ 999 := by omega
                      refine lv_aload_n hx hb dX2_readSum_140 rfl (lv_at hl 2 rfl) ?_
                      refine va_get (D := g.1) (ci := 2) (v := .ref lo) (C := RX2) (T := TX2) (N := 2) hx hb hts izRX2 hown hK hP 0 rfl rfl 1 (by decide) (hts _ k210) (fun _ h9 => h9) rfl dX2_readSum_141 ?_
                      refine lv_iload_n hx hb dX2_readSum_144 rfl (lv_at hl 1 rfl) ?_
                      refine lv_iload_n hx hb dX2_readSum_145 rfl (lv_at hl 0 rfl) ?_
                      refine mcallV' (g := g) (q0 := 0) (ci := 1) (As := [.int 0, .int q_45]) (rest := []) St hK hT hA hP hD hS hl.1 [1] [0, 2] rfl rfl rfl (c_l_put l g lo lc x_6 ll lm lg ld fc_7 0 q_45 i12) (cwV 2 hts (zgL (zl4 k297 k298 k299 k85) k202) rfl rfl rfl (by decide +kernel) ⟨Nat.le_of_ble_eq_true rfl, Nat.le_of_ble_eq_true rfl⟩) rfl rfl rfl rfl (Nat.le_of_ble_eq_true rfl) dX2_readSum_146 ⟨(Nat.le_of_ble_eq_true rfl), (Nat.le_of_ble_eq_true rfl)⟩ (fun u_ H locs hq53 hP hD hS => ?_)
                      obtain ⟨lz2_50, fc2_51, q_52⟩ := u_
                      replace hq53 : (0 ≤ lz2_50.toInt ∧ lz2_50.toInt ≤ 400) := hq53
                      have hP : va_P g.1 vwCl (List.flatten [bLT g lt ta lo, bTape g ta ab sz ln kd2_41 bg2_42 nx2_43 ft2_44 fb, bLaw g lo lc lz2_50 ll lm lg ld fc2_51]) H := hP
                      have hD : va_D A (List.flatten [bLT g lt ta lo, bTape g ta ab sz ln kd2_41 bg2_42 nx2_43 ft2_44 fb, bLaw g lo lc lz2_50 ll lm lg ld fc2_51]) := hD
                      refine W.widen (k := 0) (n := 0) (Nat.le_of_ble_eq_true rfl) (Nat.le_of_ble_eq_true rfl) ?_
                      refine W.eq (g2 := F0 m 149 ls [.int q_52]) rfl ?_
                      refine lv_pop hx hb dX2_readSum_149 rfl ?_
                      refine lv_aload_n hx hb dX2_readSum_150 rfl (lv_at hl 2 rfl) ?_
                      refine va_get (D := g.1) (ci := 2) (v := .ref ta) (C := RX2) (T := TX2) (N := 2) hx hb hts izRX2 hown hK hP 0 rfl rfl 0 (by decide) (hts _ k290) (fun x9 h9 => u_same (hts _ k291) x9 h9) rfl dX2_readSum_151 ?_
                      refine lv_bipush (v := 43) hx hb dX2_readSum_154 (by decide) ?_
                      refine mcallV' (g := g) (q0 := 0) (ci := 6) (As := [.int 43]) (rest := []) St hK hT hA hP hD hS hl.1 [1] [0, 2] rfl rfl rfl (c_t_takeSign l g ta ab sz ln kd2_41 bg2_42 nx2_43 ft2_44 fb 43 hln hq46_0 hq46_1 hq46_2 hq46_3) (cwV 1 hts (zgL (zl4 k300 k301 k302 k277) k286) rfl rfl rfl (by decide +kernel) ⟨Nat.le_of_ble_eq_true rfl, Nat.le_of_ble_eq_true rfl⟩) rfl rfl rfl rfl (Nat.le_of_ble_eq_true rfl) dX2_readSum_156 ⟨(Nat.le_of_ble_eq_true rfl), (Nat.le_of_ble_eq_true rfl)⟩ (fun u_ H locs hq58 hP hD hS => ?_)
                      obtain ⟨kd2_54, bg2_55, nx2_56, q_57⟩ := u_
                      replace hq58 : (0 ≤ nx2_56.toInt ∧ nx2_56.toInt ≤ 400) ∧ (0 ≤ bg2_55.toInt ∧ bg2_55.toInt ≤ 400) ∧ (zKd kd2_54.toInt bg2_55.toInt nx2_56.toInt) ∧ (q_57 = 0 ∨ q_57 = 1) := hq58
                      have hP : va_P g.1 vwCl (List.flatten [bLT g lt ta lo, bLaw g lo lc lz2_50 ll lm lg ld fc2_51, bTape g ta ab sz ln kd2_54 bg2_55 nx2_56 ft2_44 fb]) H := hP
                      have hD : va_D A (List.flatten [bLT g lt ta lo, bLaw g lo lc lz2_50 ll lm lg ld fc2_51, bTape g ta ab sz ln kd2_54 bg2_55 nx2_56 ft2_44 fb]) := hD
                      refine W.widen (k := 0) (n := 0) (Nat.le_of_ble_eq_true rfl) (Nat.le_of_ble_eq_true rfl) ?_
                      refine W.eq (g2 := F0 m 159 ls [.int q_57]) rfl ?_
                      obtain ⟨hq58_0, hq58_1, hq58_2, hq58_3⟩ := hq58
                      rcases hq58_3 with rfl | rfl
                      · skip
                        refine lv_if_ne (tgt := 164) hx hb dX2_readSum_159 (by decide) (fun c59 => absurd (by decide) c59) (fun _ => ?_)
                        refine lv_iconst (v := 1) hx hb dX2_readSum_162 (by decide) ?_
                        have hP : va_P g.1 vwCl (List.flatten [bLT g lt ta lo, bLaw g lo lc lz2_50 ll lm lg ld fc2_51, bTape g ta ab sz ln kd2_54 bg2_55 nx2_56 ft2_44 fb]) H := hP
                        have hD : va_D A (List.flatten [bLT g lt ta lo, bLaw g lo lc lz2_50 ll lm lg ld fc2_51, bTape g ta ab sz ln kd2_54 bg2_55 nx2_56 ft2_44 fb]) := hD
                        obtain ⟨hP, hD⟩ := zord (g := g) (Bs' := [bLT g lt ta lo, bTape g ta ab sz ln kd2_54 bg2_55 nx2_56 ft2_44 fb, bLaw g lo lc lz2_50 ll lm lg ld fc2_51]) [0, 2, 1] rfl rfl hP hD
                        exact mret_z hx hb hr hlocks hS (Nat.le_of_ble_eq_true rfl) (Nat.le_of_ble_eq_true rfl) dX2_readSum_163 (kd2_54, bg2_55, nx2_56, ft2_44, lz2_50, fc2_51, (1 : Int32)) rfl (by decide) (show (0 ≤ lz2_50.toInt ∧ lz2_50.toInt ≤ 400) ∧ (-1 ≤ ft2_44.toInt) ∧ (0 ≤ nx2_56.toInt ∧ nx2_56.toInt ≤ 400) ∧ (0 ≤ bg2_55.toInt ∧ bg2_55.toInt ≤ 400) ∧ (zKd kd2_54.toInt bg2_55.toInt nx2_56.toInt) ∧ (1 = 0 ∨ 1 = 1) from ⟨hq53, hq46_3, hq58_0, hq58_1, hq58_2, (by decide)⟩) hP hD
                      · skip
                        refine lv_if_ne (tgt := 164) hx hb dX2_readSum_159 (by decide) (fun _ => ?_) (fun c60 => absurd c60 (by decide))
                        refine ziinc3 (n' := 1) (a' := 1) (b' := 400) (lv' := fun v9 => [(1, .int v9), (3, .int q_45), (2, .int 0), (0, .ref lt)]) hx hb dX2_readSum_164 hl (k := 3) rfl (by decide) (fun _ => rfl) (zaddK (i := x_1.toInt) (j := 1) rfl (by decide) i8.1 n21 (Int.le_refl _) (Int.le_refl _) (by decide)) (fun x_61 ls hx_61 hl => ?_)
                        refine lv_goto (tgt := 2) hx hb dX2_readSum_167 (by decide) ?_
                        have hl := lv_sub (l' := [(0, .ref lt), (1, .int x_61), (2, .int 0), (3, .int q_45)]) hl [3, 0, 2, 1] rfl
                        have hP : va_P g.1 vwCl (List.flatten [bLT g lt ta lo, bLaw g lo lc lz2_50 ll lm lg ld fc2_51, bTape g ta ab sz ln kd2_54 bg2_55 nx2_56 ft2_44 fb]) H := hP
                        have hD : va_D A (List.flatten [bLT g lt ta lo, bLaw g lo lc lz2_50 ll lm lg ld fc2_51, bTape g ta ab sz ln kd2_54 bg2_55 nx2_56 ft2_44 fb]) := hD
                        obtain ⟨hP, hD⟩ := zord (g := g) (Bs' := [bLT g lt ta lo, bTape g ta ab sz ln kd2_54 bg2_55 nx2_56 ft2_44 fb, bLaw g lo lc lz2_50 ll lm lg ld fc2_51]) [0, 2, 1] rfl rfl hP hD
                        have hP : va_P g.1 vwCl (List.flatten [bLT g lt ta lo, bTape g ta ab sz ln kd2_54 bg2_55 nx2_56 ft2_44 fb, bLaw g lo lc lz2_50 ll lm lg ld fc2_51]) H := hP
                        have hD : va_D A (List.flatten [bLT g lt ta lo, bTape g ta ab sz ln kd2_54 bg2_55 nx2_56 ft2_44 fb, bLaw g lo lc lz2_50 ll lm lg ld fc2_51]) := hD
                        exact ih2_15 x_61 kd2_54 bg2_55 nx2_56 ft2_44 lz2_50 fc2_51 ⟨(Int.le_trans (by decide) hx_61.2.1), hx_61.2.2⟩ ⟨hq58_1.1, hq58_1.2⟩ ⟨hq58_0.1, hq58_0.2⟩ (by first | omega | assumption | decide) ⟨hq53.1, hq53.2⟩ hq58_2 H _ ls (zmK hx_61.1 (by decide) n21 (by decide) hk2_15)  hP hD hS (lv_sub hl [0, 1] rfl)
                    · skip
                      have c62 : q_45.toInt = (-1) := zeq cb9 rfl (by decide)
                      have n63 : q_45.toInt ≤ (-1) := Int.le_trans (Int.le_of_eq c62) (Int.le_refl _)
                      refine lv_iconst (v := 0) hx hb dX2_readSum_131 (by decide) ?_
                      have hP : va_P g.1 vwCl (List.flatten [bLT g lt ta lo, bLaw g lo lc x_6 ll lm lg ld fc_7, bTape g ta ab sz ln kd2_41 bg2_42 nx2_43 ft2_44 fb]) H := hP
                      have hD : va_D A (List.flatten [bLT g lt ta lo, bLaw g lo lc x_6 ll lm lg ld fc_7, bTape g ta ab sz ln kd2_41 bg2_42 nx2_43 ft2_44 fb]) := hD
                      obtain ⟨hP, hD⟩ := zord (g := g) (Bs' := [bLT g lt ta lo, bTape g ta ab sz ln kd2_41 bg2_42 nx2_43 ft2_44 fb, bLaw g lo lc x_6 ll lm lg ld fc_7]) [0, 2, 1] rfl rfl hP hD
                      exact mret_z hx hb hr hlocks hS (Nat.le_of_ble_eq_true rfl) (Nat.le_of_ble_eq_true rfl) dX2_readSum_132 (kd2_41, bg2_42, nx2_43, ft2_44, x_6, fc_7, (0 : Int32)) rfl (by decide) (show (0 ≤ x_6.toInt ∧ x_6.toInt ≤ 400) ∧ (-1 ≤ ft2_44.toInt) ∧ (0 ≤ nx2_43.toInt ∧ nx2_43.toInt ≤ 400) ∧ (0 ≤ bg2_42.toInt ∧ bg2_42.toInt ≤ 400) ∧ (zKd kd2_41.toInt bg2_42.toInt nx2_43.toInt) ∧ (0 = 0 ∨ 0 = 1) from ⟨i12, hq46_3, hq46_0, hq46_1, hq46_2, (by decide)⟩) hP hD
                  · skip
                    refine lv_if_eq (tgt := 106) hx hb dX2_readSum_98 (by decide) (fun c64 => absurd c64 (by decide)) (fun _ => ?_)
                    refine lv_bipush (v := 6) hx hb dX2_readSum_101 (by decide) ?_
                    refine lv_goto (tgt := 107) hx hb dX2_readSum_103 (by decide) ?_
                    refine lv_istore_n (lv' := [(2, .int 6), (0, .ref lt), (1, .int x_1)]) hx hb dX2_readSum_107 rfl hl (by decide) rfl (fun ls hl => ?_)
                    refine lv_iconst (v := 0) hx hb dX2_readSum_108 (by decide) ?_
                    refine lv_istore_n (lv' := [(3, .int 0), (2, .int 6), (0, .ref lt), (1, .int x_1)]) hx hb dX2_readSum_109 rfl hl (by decide) rfl (fun ls hl => ?_)
                    refine lv_iload_n hx hb dX2_readSum_110 rfl (lv_at hl 1 rfl) ?_
                    refine lv_if_ne (tgt := 133) hx hb dX2_readSum_111 (by decide) (fun _ => ?_) (fun c65 => absurd c65 (by decide))
                    refine lv_aload_n hx hb dX2_readSum_133 rfl (lv_at hl 2 rfl) ?_
                    refine va_get (D := g.1) (ci := 2) (v := .ref ta) (C := RX2) (T := TX2) (N := 2) hx hb hts izRX2 hown hK hP 0 rfl rfl 0 (by decide) (hts _ k290) (fun x9 h9 => u_same (hts _ k291) x9 h9) rfl dX2_readSum_134 ?_
                    refine mcallV' (g := g) (q0 := 0) (ci := 6) (As := []) (rest := []) St hK hT hA hP hD hS hl.1 [2] [0, 1] rfl rfl rfl (c_t_step l g ta ab sz ln x_2 x_3 x_4 x_5 fb hln i10) (cwV 0 hts (zgL (zl4 k296 k275 k276 k277) k271) rfl rfl rfl (by decide +kernel) ⟨Nat.le_of_ble_eq_true rfl, Nat.le_of_ble_eq_true rfl⟩) rfl rfl rfl rfl (Nat.le_of_ble_eq_true rfl) dX2_readSum_137 ⟨(Nat.le_of_ble_eq_true rfl), (Nat.le_of_ble_eq_true rfl)⟩ (fun u_ H locs hq69 hP hD hS => ?_)
                    obtain ⟨kd2_66, bg2_67, nx2_68⟩ := u_
                    replace hq69 : (0 ≤ nx2_68.toInt ∧ nx2_68.toInt ≤ 400) ∧ (0 ≤ bg2_67.toInt ∧ bg2_67.toInt ≤ 400) ∧ (zKd kd2_66.toInt bg2_67.toInt nx2_68.toInt) := hq69
                    have hP : va_P g.1 vwCl (List.flatten [bLT g lt ta lo, bLaw g lo lc x_6 ll lm lg ld fc_7, bTape g ta ab sz ln kd2_66 bg2_67 nx2_68 x_5 fb]) H := hP
                    have hD : va_D A (List.flatten [bLT g lt ta lo, bLaw g lo lc x_6 ll lm lg ld fc_7, bTape g ta ab sz ln kd2_66 bg2_67 nx2_68 x_5 fb]) := hD
                    refine W.widen (k := 0) (n := 0) (Nat.le_of_ble_eq_true rfl) (Nat.le_of_ble_eq_true rfl) ?_
                    refine W.eq (g2 := F0 m 140 ls []) rfl ?_
                    obtain ⟨hq69_0, hq69_1, hq69_2⟩ := hq69
                    refine lv_aload_n hx hb dX2_readSum_140 rfl (lv_at hl 2 rfl) ?_
                    refine va_get (D := g.1) (ci := 2) (v := .ref lo) (C := RX2) (T := TX2) (N := 2) hx hb hts izRX2 hown hK hP 0 rfl rfl 1 (by decide) (hts _ k210) (fun _ h9 => h9) rfl dX2_readSum_141 ?_
                    refine lv_iload_n hx hb dX2_readSum_144 rfl (lv_at hl 1 rfl) ?_
                    refine lv_iload_n hx hb dX2_readSum_145 rfl (lv_at hl 0 rfl) ?_
                    refine mcallV' (g := g) (q0 := 0) (ci := 1) (As := [.int 6, .int 0]) (rest := []) St hK hT hA hP hD hS hl.1 [1] [0, 2] rfl rfl rfl (c_l_put l g lo lc x_6 ll lm lg ld fc_7 6 0 i12) (cwV 2 hts (zgL (zl4 k297 k298 k299 k85) k202) rfl rfl rfl (by decide +kernel) ⟨Nat.le_of_ble_eq_true rfl, Nat.le_of_ble_eq_true rfl⟩) rfl rfl rfl rfl (Nat.le_of_ble_eq_true rfl) dX2_readSum_146 ⟨(Nat.le_of_ble_eq_true rfl), (Nat.le_of_ble_eq_true rfl)⟩ (fun u_ H locs hq73 hP hD hS => ?_)
                    obtain ⟨lz2_70, fc2_71, q_72⟩ := u_
                    replace hq73 : (0 ≤ lz2_70.toInt ∧ lz2_70.toInt ≤ 400) := hq73
                    have hP : va_P g.1 vwCl (List.flatten [bLT g lt ta lo, bTape g ta ab sz ln kd2_66 bg2_67 nx2_68 x_5 fb, bLaw g lo lc lz2_70 ll lm lg ld fc2_71]) H := hP
                    have hD : va_D A (List.flatten [bLT g lt ta lo, bTape g ta ab sz ln kd2_66 bg2_67 nx2_68 x_5 fb, bLaw g lo lc lz2_70 ll lm lg ld fc2_71]) := hD
                    refine W.widen (k := 0) (n := 0) (Nat.le_of_ble_eq_true rfl) (Nat.le_of_ble_eq_true rfl) ?_
                    refine W.eq (g2 := F0 m 149 ls [.int q_72]) rfl ?_
                    refine lv_pop hx hb dX2_readSum_149 rfl ?_
                    refine lv_aload_n hx hb dX2_readSum_150 rfl (lv_at hl 2 rfl) ?_
                    refine va_get (D := g.1) (ci := 2) (v := .ref ta) (C := RX2) (T := TX2) (N := 2) hx hb hts izRX2 hown hK hP 0 rfl rfl 0 (by decide) (hts _ k290) (fun x9 h9 => u_same (hts _ k291) x9 h9) rfl dX2_readSum_151 ?_
                    refine lv_bipush (v := 43) hx hb dX2_readSum_154 (by decide) ?_
                    refine mcallV' (g := g) (q0 := 0) (ci := 6) (As := [.int 43]) (rest := []) St hK hT hA hP hD hS hl.1 [1] [0, 2] rfl rfl rfl (c_t_takeSign l g ta ab sz ln kd2_66 bg2_67 nx2_68 x_5 fb 43 hln hq69_0 hq69_1 hq69_2 i11) (cwV 1 hts (zgL (zl4 k300 k301 k302 k277) k286) rfl rfl rfl (by decide +kernel) ⟨Nat.le_of_ble_eq_true rfl, Nat.le_of_ble_eq_true rfl⟩) rfl rfl rfl rfl (Nat.le_of_ble_eq_true rfl) dX2_readSum_156 ⟨(Nat.le_of_ble_eq_true rfl), (Nat.le_of_ble_eq_true rfl)⟩ (fun u_ H locs hq78 hP hD hS => ?_)
                    obtain ⟨kd2_74, bg2_75, nx2_76, q_77⟩ := u_
                    replace hq78 : (0 ≤ nx2_76.toInt ∧ nx2_76.toInt ≤ 400) ∧ (0 ≤ bg2_75.toInt ∧ bg2_75.toInt ≤ 400) ∧ (zKd kd2_74.toInt bg2_75.toInt nx2_76.toInt) ∧ (q_77 = 0 ∨ q_77 = 1) := hq78
                    have hP : va_P g.1 vwCl (List.flatten [bLT g lt ta lo, bLaw g lo lc lz2_70 ll lm lg ld fc2_71, bTape g ta ab sz ln kd2_74 bg2_75 nx2_76 x_5 fb]) H := hP
                    have hD : va_D A (List.flatten [bLT g lt ta lo, bLaw g lo lc lz2_70 ll lm lg ld fc2_71, bTape g ta ab sz ln kd2_74 bg2_75 nx2_76 x_5 fb]) := hD
                    refine W.widen (k := 0) (n := 0) (Nat.le_of_ble_eq_true rfl) (Nat.le_of_ble_eq_true rfl) ?_
                    refine W.eq (g2 := F0 m 159 ls [.int q_77]) rfl ?_
                    obtain ⟨hq78_0, hq78_1, hq78_2, hq78_3⟩ := hq78
                    rcases hq78_3 with rfl | rfl
                    · skip
                      refine lv_if_ne (tgt := 164) hx hb dX2_readSum_159 (by decide) (fun c79 => absurd (by decide) c79) (fun _ => ?_)
                      refine lv_iconst (v := 1) hx hb dX2_readSum_162 (by decide) ?_
                      have hP : va_P g.1 vwCl (List.flatten [bLT g lt ta lo, bLaw g lo lc lz2_70 ll lm lg ld fc2_71, bTape g ta ab sz ln kd2_74 bg2_75 nx2_76 x_5 fb]) H := hP
                      have hD : va_D A (List.flatten [bLT g lt ta lo, bLaw g lo lc lz2_70 ll lm lg ld fc2_71, bTape g ta ab sz ln kd2_74 bg2_75 nx2_76 x_5 fb]) := hD
                      obtain ⟨hP, hD⟩ := zord (g := g) (Bs' := [bLT g lt ta lo, bTape g ta ab sz ln kd2_74 bg2_75 nx2_76 x_5 fb, bLaw g lo lc lz2_70 ll lm lg ld fc2_71]) [0, 2, 1] rfl rfl hP hD
                      exact mret_z hx hb hr hlocks hS (Nat.le_of_ble_eq_true rfl) (Nat.le_of_ble_eq_true rfl) dX2_readSum_163 (kd2_74, bg2_75, nx2_76, x_5, lz2_70, fc2_71, (1 : Int32)) rfl (by decide) (show (0 ≤ lz2_70.toInt ∧ lz2_70.toInt ≤ 400) ∧ (-1 ≤ x_5.toInt) ∧ (0 ≤ nx2_76.toInt ∧ nx2_76.toInt ≤ 400) ∧ (0 ≤ bg2_75.toInt ∧ bg2_75.toInt ≤ 400) ∧ (zKd kd2_74.toInt bg2_75.toInt nx2_76.toInt) ∧ (1 = 0 ∨ 1 = 1) from ⟨hq73, i11, hq78_0, hq78_1, hq78_2, (by decide)⟩) hP hD
                    · skip
                      refine lv_if_ne (tgt := 164) hx hb dX2_readSum_159 (by decide) (fun _ => ?_) (fun c80 => absurd c80 (by decide))
                      refine ziinc3 (n' := 1) (a' := 1) (b' := 400) (lv' := fun v9 => [(1, .int v9), (3, .int 0), (2, .int 6), (0, .ref lt)]) hx hb dX2_readSum_164 hl (k := 3) rfl (by decide) (fun _ => rfl) (zaddK (i := x_1.toInt) (j := 1) rfl (by decide) i8.1 n21 (Int.le_refl _) (Int.le_refl _) (by decide)) (fun x_81 ls hx_81 hl => ?_)
                      refine lv_goto (tgt := 2) hx hb dX2_readSum_167 (by decide) ?_
                      have hl := lv_sub (l' := [(0, .ref lt), (1, .int x_81), (2, .int 6), (3, .int 0)]) hl [3, 0, 2, 1] rfl
                      have hP : va_P g.1 vwCl (List.flatten [bLT g lt ta lo, bLaw g lo lc lz2_70 ll lm lg ld fc2_71, bTape g ta ab sz ln kd2_74 bg2_75 nx2_76 x_5 fb]) H := hP
                      have hD : va_D A (List.flatten [bLT g lt ta lo, bLaw g lo lc lz2_70 ll lm lg ld fc2_71, bTape g ta ab sz ln kd2_74 bg2_75 nx2_76 x_5 fb]) := hD
                      obtain ⟨hP, hD⟩ := zord (g := g) (Bs' := [bLT g lt ta lo, bTape g ta ab sz ln kd2_74 bg2_75 nx2_76 x_5 fb, bLaw g lo lc lz2_70 ll lm lg ld fc2_71]) [0, 2, 1] rfl rfl hP hD
                      have hP : va_P g.1 vwCl (List.flatten [bLT g lt ta lo, bTape g ta ab sz ln kd2_74 bg2_75 nx2_76 x_5 fb, bLaw g lo lc lz2_70 ll lm lg ld fc2_71]) H := hP
                      have hD : va_D A (List.flatten [bLT g lt ta lo, bTape g ta ab sz ln kd2_74 bg2_75 nx2_76 x_5 fb, bLaw g lo lc lz2_70 ll lm lg ld fc2_71]) := hD
                      exact ih2_15 x_81 kd2_74 bg2_75 nx2_76 x_5 lz2_70 fc2_71 ⟨(Int.le_trans (by decide) hx_81.2.1), hx_81.2.2⟩ ⟨hq78_1.1, hq78_1.2⟩ ⟨hq78_0.1, hq78_0.2⟩ i11 ⟨hq73.1, hq73.2⟩ hq78_2 H _ ls (zmK hx_81.1 (by decide) n21 (by decide) hk2_15)  hP hD hS (lv_sub hl [0, 1] rfl)
                · skip
                  refine lv_if_eq (tgt := 89) hx hb dX2_readSum_82 (by decide) (fun c82 => absurd c82 (by decide)) (fun _ => ?_)
                  refine lv_iconst (v := 5) hx hb dX2_readSum_85 (by decide) ?_
                  refine lv_goto (tgt := 107) hx hb dX2_readSum_86 (by decide) ?_
                  refine lv_istore_n (lv' := [(2, .int 5), (0, .ref lt), (1, .int x_1)]) hx hb dX2_readSum_107 rfl hl (by decide) rfl (fun ls hl => ?_)
                  refine lv_iconst (v := 0) hx hb dX2_readSum_108 (by decide) ?_
                  refine lv_istore_n (lv' := [(3, .int 0), (2, .int 5), (0, .ref lt), (1, .int x_1)]) hx hb dX2_readSum_109 rfl hl (by decide) rfl (fun ls hl => ?_)
                  refine lv_iload_n hx hb dX2_readSum_110 rfl (lv_at hl 1 rfl) ?_
                  refine lv_if_ne (tgt := 133) hx hb dX2_readSum_111 (by decide) (fun _ => ?_) (fun c83 => absurd c83 (by decide))
                  refine lv_aload_n hx hb dX2_readSum_133 rfl (lv_at hl 2 rfl) ?_
                  refine va_get (D := g.1) (ci := 2) (v := .ref ta) (C := RX2) (T := TX2) (N := 2) hx hb hts izRX2 hown hK hP 0 rfl rfl 0 (by decide) (hts _ k290) (fun x9 h9 => u_same (hts _ k291) x9 h9) rfl dX2_readSum_134 ?_
                  refine mcallV' (g := g) (q0 := 0) (ci := 6) (As := []) (rest := []) St hK hT hA hP hD hS hl.1 [2] [0, 1] rfl rfl rfl (c_t_step l g ta ab sz ln x_2 x_3 x_4 x_5 fb hln i10) (cwV 0 hts (zgL (zl4 k296 k275 k276 k277) k271) rfl rfl rfl (by decide +kernel) ⟨Nat.le_of_ble_eq_true rfl, Nat.le_of_ble_eq_true rfl⟩) rfl rfl rfl rfl (Nat.le_of_ble_eq_true rfl) dX2_readSum_137 ⟨(Nat.le_of_ble_eq_true rfl), (Nat.le_of_ble_eq_true rfl)⟩ (fun u_ H locs hq87 hP hD hS => ?_)
                  obtain ⟨kd2_84, bg2_85, nx2_86⟩ := u_
                  replace hq87 : (0 ≤ nx2_86.toInt ∧ nx2_86.toInt ≤ 400) ∧ (0 ≤ bg2_85.toInt ∧ bg2_85.toInt ≤ 400) ∧ (zKd kd2_84.toInt bg2_85.toInt nx2_86.toInt) := hq87
                  have hP : va_P g.1 vwCl (List.flatten [bLT g lt ta lo, bLaw g lo lc x_6 ll lm lg ld fc_7, bTape g ta ab sz ln kd2_84 bg2_85 nx2_86 x_5 fb]) H := hP
                  have hD : va_D A (List.flatten [bLT g lt ta lo, bLaw g lo lc x_6 ll lm lg ld fc_7, bTape g ta ab sz ln kd2_84 bg2_85 nx2_86 x_5 fb]) := hD
                  refine W.widen (k := 0) (n := 0) (Nat.le_of_ble_eq_true rfl) (Nat.le_of_ble_eq_true rfl) ?_
                  refine W.eq (g2 := F0 m 140 ls []) rfl ?_
                  obtain ⟨hq87_0, hq87_1, hq87_2⟩ := hq87
                  refine lv_aload_n hx hb dX2_readSum_140 rfl (lv_at hl 2 rfl) ?_
                  refine va_get (D := g.1) (ci := 2) (v := .ref lo) (C := RX2) (T := TX2) (N := 2) hx hb hts izRX2 hown hK hP 0 rfl rfl 1 (by decide) (hts _ k210) (fun _ h9 => h9) rfl dX2_readSum_141 ?_
                  refine lv_iload_n hx hb dX2_readSum_144 rfl (lv_at hl 1 rfl) ?_
                  refine lv_iload_n hx hb dX2_readSum_145 rfl (lv_at hl 0 rfl) ?_
                  refine mcallV' (g := g) (q0 := 0) (ci := 1) (As := [.int 5, .int 0]) (rest := []) St hK hT hA hP hD hS hl.1 [1] [0, 2] rfl rfl rfl (c_l_put l g lo lc x_6 ll lm lg ld fc_7 5 0 i12) (cwV 2 hts (zgL (zl4 k297 k298 k299 k85) k202) rfl rfl rfl (by decide +kernel) ⟨Nat.le_of_ble_eq_true rfl, Nat.le_of_ble_eq_true rfl⟩) rfl rfl rfl rfl (Nat.le_of_ble_eq_true rfl) dX2_readSum_146 ⟨(Nat.le_of_ble_eq_true rfl), (Nat.le_of_ble_eq_true rfl)⟩ (fun u_ H locs hq91 hP hD hS => ?_)
                  obtain ⟨lz2_88, fc2_89, q_90⟩ := u_
                  replace hq91 : (0 ≤ lz2_88.toInt ∧ lz2_88.toInt ≤ 400) := hq91
                  have hP : va_P g.1 vwCl (List.flatten [bLT g lt ta lo, bTape g ta ab sz ln kd2_84 bg2_85 nx2_86 x_5 fb, bLaw g lo lc lz2_88 ll lm lg ld fc2_89]) H := hP
                  have hD : va_D A (List.flatten [bLT g lt ta lo, bTape g ta ab sz ln kd2_84 bg2_85 nx2_86 x_5 fb, bLaw g lo lc lz2_88 ll lm lg ld fc2_89]) := hD
                  refine W.widen (k := 0) (n := 0) (Nat.le_of_ble_eq_true rfl) (Nat.le_of_ble_eq_true rfl) ?_
                  refine W.eq (g2 := F0 m 149 ls [.int q_90]) rfl ?_
                  refine lv_pop hx hb dX2_readSum_149 rfl ?_
                  refine lv_aload_n hx hb dX2_readSum_150 rfl (lv_at hl 2 rfl) ?_
                  refine va_get (D := g.1) (ci := 2) (v := .ref ta) (C := RX2) (T := TX2) (N := 2) hx hb hts izRX2 hown hK hP 0 rfl rfl 0 (by decide) (hts _ k290) (fun x9 h9 => u_same (hts _ k291) x9 h9) rfl dX2_readSum_151 ?_
                  refine lv_bipush (v := 43) hx hb dX2_readSum_154 (by decide) ?_
                  refine mcallV' (g := g) (q0 := 0) (ci := 6) (As := [.int 43]) (rest := []) St hK hT hA hP hD hS hl.1 [1] [0, 2] rfl rfl rfl (c_t_takeSign l g ta ab sz ln kd2_84 bg2_85 nx2_86 x_5 fb 43 hln hq87_0 hq87_1 hq87_2 i11) (cwV 1 hts (zgL (zl4 k300 k301 k302 k277) k286) rfl rfl rfl (by decide +kernel) ⟨Nat.le_of_ble_eq_true rfl, Nat.le_of_ble_eq_true rfl⟩) rfl rfl rfl rfl (Nat.le_of_ble_eq_true rfl) dX2_readSum_156 ⟨(Nat.le_of_ble_eq_true rfl), (Nat.le_of_ble_eq_true rfl)⟩ (fun u_ H locs hq96 hP hD hS => ?_)
                  obtain ⟨kd2_92, bg2_93, nx2_94, q_95⟩ := u_
                  replace hq96 : (0 ≤ nx2_94.toInt ∧ nx2_94.toInt ≤ 400) ∧ (0 ≤ bg2_93.toInt ∧ bg2_93.toInt ≤ 400) ∧ (zKd kd2_92.toInt bg2_93.toInt nx2_94.toInt) ∧ (q_95 = 0 ∨ q_95 = 1) := hq96
                  have hP : va_P g.1 vwCl (List.flatten [bLT g lt ta lo, bLaw g lo lc lz2_88 ll lm lg ld fc2_89, bTape g ta ab sz ln kd2_92 bg2_93 nx2_94 x_5 fb]) H := hP
                  have hD : va_D A (List.flatten [bLT g lt ta lo, bLaw g lo lc lz2_88 ll lm lg ld fc2_89, bTape g ta ab sz ln kd2_92 bg2_93 nx2_94 x_5 fb]) := hD
                  refine W.widen (k := 0) (n := 0) (Nat.le_of_ble_eq_true rfl) (Nat.le_of_ble_eq_true rfl) ?_
                  refine W.eq (g2 := F0 m 159 ls [.int q_95]) rfl ?_
                  obtain ⟨hq96_0, hq96_1, hq96_2, hq96_3⟩ := hq96
                  rcases hq96_3 with rfl | rfl
                  · skip
                    refine lv_if_ne (tgt := 164) hx hb dX2_readSum_159 (by decide) (fun c97 => absurd (by decide) c97) (fun _ => ?_)
                    refine lv_iconst (v := 1) hx hb dX2_readSum_162 (by decide) ?_
                    have hP : va_P g.1 vwCl (List.flatten [bLT g lt ta lo, bLaw g lo lc lz2_88 ll lm lg ld fc2_89, bTape g ta ab sz ln kd2_92 bg2_93 nx2_94 x_5 fb]) H := hP
                    have hD : va_D A (List.flatten [bLT g lt ta lo, bLaw g lo lc lz2_88 ll lm lg ld fc2_89, bTape g ta ab sz ln kd2_92 bg2_93 nx2_94 x_5 fb]) := hD
                    obtain ⟨hP, hD⟩ := zord (g := g) (Bs' := [bLT g lt ta lo, bTape g ta ab sz ln kd2_92 bg2_93 nx2_94 x_5 fb, bLaw g lo lc lz2_88 ll lm lg ld fc2_89]) [0, 2, 1] rfl rfl hP hD
                    exact mret_z hx hb hr hlocks hS (Nat.le_of_ble_eq_true rfl) (Nat.le_of_ble_eq_true rfl) dX2_readSum_163 (kd2_92, bg2_93, nx2_94, x_5, lz2_88, fc2_89, (1 : Int32)) rfl (by decide) (show (0 ≤ lz2_88.toInt ∧ lz2_88.toInt ≤ 400) ∧ (-1 ≤ x_5.toInt) ∧ (0 ≤ nx2_94.toInt ∧ nx2_94.toInt ≤ 400) ∧ (0 ≤ bg2_93.toInt ∧ bg2_93.toInt ≤ 400) ∧ (zKd kd2_92.toInt bg2_93.toInt nx2_94.toInt) ∧ (1 = 0 ∨ 1 = 1) from ⟨hq91, i11, hq96_0, hq96_1, hq96_2, (by decide)⟩) hP hD
                  · skip
                    refine lv_if_ne (tgt := 164) hx hb dX2_readSum_159 (by decide) (fun _ => ?_) (fun c98 => absurd c98 (by decide))
                    refine ziinc3 (n' := 1) (a' := 1) (b' := 400) (lv' := fun v9 => [(1, .int v9), (3, .int 0), (2, .int 5), (0, .ref lt)]) hx hb dX2_readSum_164 hl (k := 3) rfl (by decide) (fun _ => rfl) (zaddK (i := x_1.toInt) (j := 1) rfl (by decide) i8.1 n21 (Int.le_refl _) (Int.le_refl _) (by decide)) (fun x_99 ls hx_99 hl => ?_)
                    refine lv_goto (tgt := 2) hx hb dX2_readSum_167 (by decide) ?_
                    have hl := lv_sub (l' := [(0, .ref lt), (1, .int x_99), (2, .int 5), (3, .int 0)]) hl [3, 0, 2, 1] rfl
                    have hP : va_P g.1 vwCl (List.flatten [bLT g lt ta lo, bLaw g lo lc lz2_88 ll lm lg ld fc2_89, bTape g ta ab sz ln kd2_92 bg2_93 nx2_94 x_5 fb]) H := hP
                    have hD : va_D A (List.flatten [bLT g lt ta lo, bLaw g lo lc lz2_88 ll lm lg ld fc2_89, bTape g ta ab sz ln kd2_92 bg2_93 nx2_94 x_5 fb]) := hD
                    obtain ⟨hP, hD⟩ := zord (g := g) (Bs' := [bLT g lt ta lo, bTape g ta ab sz ln kd2_92 bg2_93 nx2_94 x_5 fb, bLaw g lo lc lz2_88 ll lm lg ld fc2_89]) [0, 2, 1] rfl rfl hP hD
                    have hP : va_P g.1 vwCl (List.flatten [bLT g lt ta lo, bTape g ta ab sz ln kd2_92 bg2_93 nx2_94 x_5 fb, bLaw g lo lc lz2_88 ll lm lg ld fc2_89]) H := hP
                    have hD : va_D A (List.flatten [bLT g lt ta lo, bTape g ta ab sz ln kd2_92 bg2_93 nx2_94 x_5 fb, bLaw g lo lc lz2_88 ll lm lg ld fc2_89]) := hD
                    exact ih2_15 x_99 kd2_92 bg2_93 nx2_94 x_5 lz2_88 fc2_89 ⟨(Int.le_trans (by decide) hx_99.2.1), hx_99.2.2⟩ ⟨hq96_1.1, hq96_1.2⟩ ⟨hq96_0.1, hq96_0.2⟩ i11 ⟨hq91.1, hq91.2⟩ hq96_2 H _ ls (zmK hx_99.1 (by decide) n21 (by decide) hk2_15)  hP hD hS (lv_sub hl [0, 1] rfl)
              · skip
                refine lv_if_eq (tgt := 73) hx hb dX2_readSum_66 (by decide) (fun c100 => absurd c100 (by decide)) (fun _ => ?_)
                refine lv_iconst (v := 4) hx hb dX2_readSum_69 (by decide) ?_
                refine lv_goto (tgt := 107) hx hb dX2_readSum_70 (by decide) ?_
                refine lv_istore_n (lv' := [(2, .int 4), (0, .ref lt), (1, .int x_1)]) hx hb dX2_readSum_107 rfl hl (by decide) rfl (fun ls hl => ?_)
                refine lv_iconst (v := 0) hx hb dX2_readSum_108 (by decide) ?_
                refine lv_istore_n (lv' := [(3, .int 0), (2, .int 4), (0, .ref lt), (1, .int x_1)]) hx hb dX2_readSum_109 rfl hl (by decide) rfl (fun ls hl => ?_)
                refine lv_iload_n hx hb dX2_readSum_110 rfl (lv_at hl 1 rfl) ?_
                refine lv_if_ne (tgt := 133) hx hb dX2_readSum_111 (by decide) (fun _ => ?_) (fun c101 => absurd c101 (by decide))
                refine lv_aload_n hx hb dX2_readSum_133 rfl (lv_at hl 2 rfl) ?_
                refine va_get (D := g.1) (ci := 2) (v := .ref ta) (C := RX2) (T := TX2) (N := 2) hx hb hts izRX2 hown hK hP 0 rfl rfl 0 (by decide) (hts _ k290) (fun x9 h9 => u_same (hts _ k291) x9 h9) rfl dX2_readSum_134 ?_
                refine mcallV' (g := g) (q0 := 0) (ci := 6) (As := []) (rest := []) St hK hT hA hP hD hS hl.1 [2] [0, 1] rfl rfl rfl (c_t_step l g ta ab sz ln x_2 x_3 x_4 x_5 fb hln i10) (cwV 0 hts (zgL (zl4 k296 k275 k276 k277) k271) rfl rfl rfl (by decide +kernel) ⟨Nat.le_of_ble_eq_true rfl, Nat.le_of_ble_eq_true rfl⟩) rfl rfl rfl rfl (Nat.le_of_ble_eq_true rfl) dX2_readSum_137 ⟨(Nat.le_of_ble_eq_true rfl), (Nat.le_of_ble_eq_true rfl)⟩ (fun u_ H locs hq105 hP hD hS => ?_)
                obtain ⟨kd2_102, bg2_103, nx2_104⟩ := u_
                replace hq105 : (0 ≤ nx2_104.toInt ∧ nx2_104.toInt ≤ 400) ∧ (0 ≤ bg2_103.toInt ∧ bg2_103.toInt ≤ 400) ∧ (zKd kd2_102.toInt bg2_103.toInt nx2_104.toInt) := hq105
                have hP : va_P g.1 vwCl (List.flatten [bLT g lt ta lo, bLaw g lo lc x_6 ll lm lg ld fc_7, bTape g ta ab sz ln kd2_102 bg2_103 nx2_104 x_5 fb]) H := hP
                have hD : va_D A (List.flatten [bLT g lt ta lo, bLaw g lo lc x_6 ll lm lg ld fc_7, bTape g ta ab sz ln kd2_102 bg2_103 nx2_104 x_5 fb]) := hD
                refine W.widen (k := 0) (n := 0) (Nat.le_of_ble_eq_true rfl) (Nat.le_of_ble_eq_true rfl) ?_
                refine W.eq (g2 := F0 m 140 ls []) rfl ?_
                obtain ⟨hq105_0, hq105_1, hq105_2⟩ := hq105
                refine lv_aload_n hx hb dX2_readSum_140 rfl (lv_at hl 2 rfl) ?_
                refine va_get (D := g.1) (ci := 2) (v := .ref lo) (C := RX2) (T := TX2) (N := 2) hx hb hts izRX2 hown hK hP 0 rfl rfl 1 (by decide) (hts _ k210) (fun _ h9 => h9) rfl dX2_readSum_141 ?_
                refine lv_iload_n hx hb dX2_readSum_144 rfl (lv_at hl 1 rfl) ?_
                refine lv_iload_n hx hb dX2_readSum_145 rfl (lv_at hl 0 rfl) ?_
                refine mcallV' (g := g) (q0 := 0) (ci := 1) (As := [.int 4, .int 0]) (rest := []) St hK hT hA hP hD hS hl.1 [1] [0, 2] rfl rfl rfl (c_l_put l g lo lc x_6 ll lm lg ld fc_7 4 0 i12) (cwV 2 hts (zgL (zl4 k297 k298 k299 k85) k202) rfl rfl rfl (by decide +kernel) ⟨Nat.le_of_ble_eq_true rfl, Nat.le_of_ble_eq_true rfl⟩) rfl rfl rfl rfl (Nat.le_of_ble_eq_true rfl) dX2_readSum_146 ⟨(Nat.le_of_ble_eq_true rfl), (Nat.le_of_ble_eq_true rfl)⟩ (fun u_ H locs hq109 hP hD hS => ?_)
                obtain ⟨lz2_106, fc2_107, q_108⟩ := u_
                replace hq109 : (0 ≤ lz2_106.toInt ∧ lz2_106.toInt ≤ 400) := hq109
                have hP : va_P g.1 vwCl (List.flatten [bLT g lt ta lo, bTape g ta ab sz ln kd2_102 bg2_103 nx2_104 x_5 fb, bLaw g lo lc lz2_106 ll lm lg ld fc2_107]) H := hP
                have hD : va_D A (List.flatten [bLT g lt ta lo, bTape g ta ab sz ln kd2_102 bg2_103 nx2_104 x_5 fb, bLaw g lo lc lz2_106 ll lm lg ld fc2_107]) := hD
                refine W.widen (k := 0) (n := 0) (Nat.le_of_ble_eq_true rfl) (Nat.le_of_ble_eq_true rfl) ?_
                refine W.eq (g2 := F0 m 149 ls [.int q_108]) rfl ?_
                refine lv_pop hx hb dX2_readSum_149 rfl ?_
                refine lv_aload_n hx hb dX2_readSum_150 rfl (lv_at hl 2 rfl) ?_
                refine va_get (D := g.1) (ci := 2) (v := .ref ta) (C := RX2) (T := TX2) (N := 2) hx hb hts izRX2 hown hK hP 0 rfl rfl 0 (by decide) (hts _ k290) (fun x9 h9 => u_same (hts _ k291) x9 h9) rfl dX2_readSum_151 ?_
                refine lv_bipush (v := 43) hx hb dX2_readSum_154 (by decide) ?_
                refine mcallV' (g := g) (q0 := 0) (ci := 6) (As := [.int 43]) (rest := []) St hK hT hA hP hD hS hl.1 [1] [0, 2] rfl rfl rfl (c_t_takeSign l g ta ab sz ln kd2_102 bg2_103 nx2_104 x_5 fb 43 hln hq105_0 hq105_1 hq105_2 i11) (cwV 1 hts (zgL (zl4 k300 k301 k302 k277) k286) rfl rfl rfl (by decide +kernel) ⟨Nat.le_of_ble_eq_true rfl, Nat.le_of_ble_eq_true rfl⟩) rfl rfl rfl rfl (Nat.le_of_ble_eq_true rfl) dX2_readSum_156 ⟨(Nat.le_of_ble_eq_true rfl), (Nat.le_of_ble_eq_true rfl)⟩ (fun u_ H locs hq114 hP hD hS => ?_)
                obtain ⟨kd2_110, bg2_111, nx2_112, q_113⟩ := u_
                replace hq114 : (0 ≤ nx2_112.toInt ∧ nx2_112.toInt ≤ 400) ∧ (0 ≤ bg2_111.toInt ∧ bg2_111.toInt ≤ 400) ∧ (zKd kd2_110.toInt bg2_111.toInt nx2_112.toInt) ∧ (q_113 = 0 ∨ q_113 = 1) := hq114
                have hP : va_P g.1 vwCl (List.flatten [bLT g lt ta lo, bLaw g lo lc lz2_106 ll lm lg ld fc2_107, bTape g ta ab sz ln kd2_110 bg2_111 nx2_112 x_5 fb]) H := hP
                have hD : va_D A (List.flatten [bLT g lt ta lo, bLaw g lo lc lz2_106 ll lm lg ld fc2_107, bTape g ta ab sz ln kd2_110 bg2_111 nx2_112 x_5 fb]) := hD
                refine W.widen (k := 0) (n := 0) (Nat.le_of_ble_eq_true rfl) (Nat.le_of_ble_eq_true rfl) ?_
                refine W.eq (g2 := F0 m 159 ls [.int q_113]) rfl ?_
                obtain ⟨hq114_0, hq114_1, hq114_2, hq114_3⟩ := hq114
                rcases hq114_3 with rfl | rfl
                · skip
                  refine lv_if_ne (tgt := 164) hx hb dX2_readSum_159 (by decide) (fun c115 => absurd (by decide) c115) (fun _ => ?_)
                  refine lv_iconst (v := 1) hx hb dX2_readSum_162 (by decide) ?_
                  have hP : va_P g.1 vwCl (List.flatten [bLT g lt ta lo, bLaw g lo lc lz2_106 ll lm lg ld fc2_107, bTape g ta ab sz ln kd2_110 bg2_111 nx2_112 x_5 fb]) H := hP
                  have hD : va_D A (List.flatten [bLT g lt ta lo, bLaw g lo lc lz2_106 ll lm lg ld fc2_107, bTape g ta ab sz ln kd2_110 bg2_111 nx2_112 x_5 fb]) := hD
                  obtain ⟨hP, hD⟩ := zord (g := g) (Bs' := [bLT g lt ta lo, bTape g ta ab sz ln kd2_110 bg2_111 nx2_112 x_5 fb, bLaw g lo lc lz2_106 ll lm lg ld fc2_107]) [0, 2, 1] rfl rfl hP hD
                  exact mret_z hx hb hr hlocks hS (Nat.le_of_ble_eq_true rfl) (Nat.le_of_ble_eq_true rfl) dX2_readSum_163 (kd2_110, bg2_111, nx2_112, x_5, lz2_106, fc2_107, (1 : Int32)) rfl (by decide) (show (0 ≤ lz2_106.toInt ∧ lz2_106.toInt ≤ 400) ∧ (-1 ≤ x_5.toInt) ∧ (0 ≤ nx2_112.toInt ∧ nx2_112.toInt ≤ 400) ∧ (0 ≤ bg2_111.toInt ∧ bg2_111.toInt ≤ 400) ∧ (zKd kd2_110.toInt bg2_111.toInt nx2_112.toInt) ∧ (1 = 0 ∨ 1 = 1) from ⟨hq109, i11, hq114_0, hq114_1, hq114_2, (by decide)⟩) hP hD
                · skip
                  refine lv_if_ne (tgt := 164) hx hb dX2_readSum_159 (by decide) (fun _ => ?_) (fun c116 => absurd c116 (by decide))
                  refine ziinc3 (n' := 1) (a' := 1) (b' := 400) (lv' := fun v9 => [(1, .int v9), (3, .int 0), (2, .int 4), (0, .ref lt)]) hx hb dX2_readSum_164 hl (k := 3) rfl (by decide) (fun _ => rfl) (zaddK (i := x_1.toInt) (j := 1) rfl (by decide) i8.1 n21 (Int.le_refl _) (Int.le_refl _) (by decide)) (fun x_117 ls hx_117 hl => ?_)
                  refine lv_goto (tgt := 2) hx hb dX2_readSum_167 (by decide) ?_
                  have hl := lv_sub (l' := [(0, .ref lt), (1, .int x_117), (2, .int 4), (3, .int 0)]) hl [3, 0, 2, 1] rfl
                  have hP : va_P g.1 vwCl (List.flatten [bLT g lt ta lo, bLaw g lo lc lz2_106 ll lm lg ld fc2_107, bTape g ta ab sz ln kd2_110 bg2_111 nx2_112 x_5 fb]) H := hP
                  have hD : va_D A (List.flatten [bLT g lt ta lo, bLaw g lo lc lz2_106 ll lm lg ld fc2_107, bTape g ta ab sz ln kd2_110 bg2_111 nx2_112 x_5 fb]) := hD
                  obtain ⟨hP, hD⟩ := zord (g := g) (Bs' := [bLT g lt ta lo, bTape g ta ab sz ln kd2_110 bg2_111 nx2_112 x_5 fb, bLaw g lo lc lz2_106 ll lm lg ld fc2_107]) [0, 2, 1] rfl rfl hP hD
                  have hP : va_P g.1 vwCl (List.flatten [bLT g lt ta lo, bTape g ta ab sz ln kd2_110 bg2_111 nx2_112 x_5 fb, bLaw g lo lc lz2_106 ll lm lg ld fc2_107]) H := hP
                  have hD : va_D A (List.flatten [bLT g lt ta lo, bTape g ta ab sz ln kd2_110 bg2_111 nx2_112 x_5 fb, bLaw g lo lc lz2_106 ll lm lg ld fc2_107]) := hD
                  exact ih2_15 x_117 kd2_110 bg2_111 nx2_112 x_5 lz2_106 fc2_107 ⟨(Int.le_trans (by decide) hx_117.2.1), hx_117.2.2⟩ ⟨hq114_1.1, hq114_1.2⟩ ⟨hq114_0.1, hq114_0.2⟩ i11 ⟨hq109.1, hq109.2⟩ hq114_2 H _ ls (zmK hx_117.1 (by decide) n21 (by decide) hk2_15)  hP hD hS (lv_sub hl [0, 1] rfl)
            · skip
              refine lv_if_eq (tgt := 57) hx hb dX2_readSum_50 (by decide) (fun c118 => absurd c118 (by decide)) (fun _ => ?_)
              refine lv_iconst (v := 3) hx hb dX2_readSum_53 (by decide) ?_
              refine lv_goto (tgt := 107) hx hb dX2_readSum_54 (by decide) ?_
              refine lv_istore_n (lv' := [(2, .int 3), (0, .ref lt), (1, .int x_1)]) hx hb dX2_readSum_107 rfl hl (by decide) rfl (fun ls hl => ?_)
              refine lv_iconst (v := 0) hx hb dX2_readSum_108 (by decide) ?_
              refine lv_istore_n (lv' := [(3, .int 0), (2, .int 3), (0, .ref lt), (1, .int x_1)]) hx hb dX2_readSum_109 rfl hl (by decide) rfl (fun ls hl => ?_)
              refine lv_iload_n hx hb dX2_readSum_110 rfl (lv_at hl 1 rfl) ?_
              refine lv_if_ne (tgt := 133) hx hb dX2_readSum_111 (by decide) (fun _ => ?_) (fun c119 => absurd c119 (by decide))
              refine lv_aload_n hx hb dX2_readSum_133 rfl (lv_at hl 2 rfl) ?_
              refine va_get (D := g.1) (ci := 2) (v := .ref ta) (C := RX2) (T := TX2) (N := 2) hx hb hts izRX2 hown hK hP 0 rfl rfl 0 (by decide) (hts _ k290) (fun x9 h9 => u_same (hts _ k291) x9 h9) rfl dX2_readSum_134 ?_
              refine mcallV' (g := g) (q0 := 0) (ci := 6) (As := []) (rest := []) St hK hT hA hP hD hS hl.1 [2] [0, 1] rfl rfl rfl (c_t_step l g ta ab sz ln x_2 x_3 x_4 x_5 fb hln i10) (cwV 0 hts (zgL (zl4 k296 k275 k276 k277) k271) rfl rfl rfl (by decide +kernel) ⟨Nat.le_of_ble_eq_true rfl, Nat.le_of_ble_eq_true rfl⟩) rfl rfl rfl rfl (Nat.le_of_ble_eq_true rfl) dX2_readSum_137 ⟨(Nat.le_of_ble_eq_true rfl), (Nat.le_of_ble_eq_true rfl)⟩ (fun u_ H locs hq123 hP hD hS => ?_)
              obtain ⟨kd2_120, bg2_121, nx2_122⟩ := u_
              replace hq123 : (0 ≤ nx2_122.toInt ∧ nx2_122.toInt ≤ 400) ∧ (0 ≤ bg2_121.toInt ∧ bg2_121.toInt ≤ 400) ∧ (zKd kd2_120.toInt bg2_121.toInt nx2_122.toInt) := hq123
              have hP : va_P g.1 vwCl (List.flatten [bLT g lt ta lo, bLaw g lo lc x_6 ll lm lg ld fc_7, bTape g ta ab sz ln kd2_120 bg2_121 nx2_122 x_5 fb]) H := hP
              have hD : va_D A (List.flatten [bLT g lt ta lo, bLaw g lo lc x_6 ll lm lg ld fc_7, bTape g ta ab sz ln kd2_120 bg2_121 nx2_122 x_5 fb]) := hD
              refine W.widen (k := 0) (n := 0) (Nat.le_of_ble_eq_true rfl) (Nat.le_of_ble_eq_true rfl) ?_
              refine W.eq (g2 := F0 m 140 ls []) rfl ?_
              obtain ⟨hq123_0, hq123_1, hq123_2⟩ := hq123
              refine lv_aload_n hx hb dX2_readSum_140 rfl (lv_at hl 2 rfl) ?_
              refine va_get (D := g.1) (ci := 2) (v := .ref lo) (C := RX2) (T := TX2) (N := 2) hx hb hts izRX2 hown hK hP 0 rfl rfl 1 (by decide) (hts _ k210) (fun _ h9 => h9) rfl dX2_readSum_141 ?_
              refine lv_iload_n hx hb dX2_readSum_144 rfl (lv_at hl 1 rfl) ?_
              refine lv_iload_n hx hb dX2_readSum_145 rfl (lv_at hl 0 rfl) ?_
              refine mcallV' (g := g) (q0 := 0) (ci := 1) (As := [.int 3, .int 0]) (rest := []) St hK hT hA hP hD hS hl.1 [1] [0, 2] rfl rfl rfl (c_l_put l g lo lc x_6 ll lm lg ld fc_7 3 0 i12) (cwV 2 hts (zgL (zl4 k297 k298 k299 k85) k202) rfl rfl rfl (by decide +kernel) ⟨Nat.le_of_ble_eq_true rfl, Nat.le_of_ble_eq_true rfl⟩) rfl rfl rfl rfl (Nat.le_of_ble_eq_true rfl) dX2_readSum_146 ⟨(Nat.le_of_ble_eq_true rfl), (Nat.le_of_ble_eq_true rfl)⟩ (fun u_ H locs hq127 hP hD hS => ?_)
              obtain ⟨lz2_124, fc2_125, q_126⟩ := u_
              replace hq127 : (0 ≤ lz2_124.toInt ∧ lz2_124.toInt ≤ 400) := hq127
              have hP : va_P g.1 vwCl (List.flatten [bLT g lt ta lo, bTape g ta ab sz ln kd2_120 bg2_121 nx2_122 x_5 fb, bLaw g lo lc lz2_124 ll lm lg ld fc2_125]) H := hP
              have hD : va_D A (List.flatten [bLT g lt ta lo, bTape g ta ab sz ln kd2_120 bg2_121 nx2_122 x_5 fb, bLaw g lo lc lz2_124 ll lm lg ld fc2_125]) := hD
              refine W.widen (k := 0) (n := 0) (Nat.le_of_ble_eq_true rfl) (Nat.le_of_ble_eq_true rfl) ?_
              refine W.eq (g2 := F0 m 149 ls [.int q_126]) rfl ?_
              refine lv_pop hx hb dX2_readSum_149 rfl ?_
              refine lv_aload_n hx hb dX2_readSum_150 rfl (lv_at hl 2 rfl) ?_
              refine va_get (D := g.1) (ci := 2) (v := .ref ta) (C := RX2) (T := TX2) (N := 2) hx hb hts izRX2 hown hK hP 0 rfl rfl 0 (by decide) (hts _ k290) (fun x9 h9 => u_same (hts _ k291) x9 h9) rfl dX2_readSum_151 ?_
              refine lv_bipush (v := 43) hx hb dX2_readSum_154 (by decide) ?_
              refine mcallV' (g := g) (q0 := 0) (ci := 6) (As := [.int 43]) (rest := []) St hK hT hA hP hD hS hl.1 [1] [0, 2] rfl rfl rfl (c_t_takeSign l g ta ab sz ln kd2_120 bg2_121 nx2_122 x_5 fb 43 hln hq123_0 hq123_1 hq123_2 i11) (cwV 1 hts (zgL (zl4 k300 k301 k302 k277) k286) rfl rfl rfl (by decide +kernel) ⟨Nat.le_of_ble_eq_true rfl, Nat.le_of_ble_eq_true rfl⟩) rfl rfl rfl rfl (Nat.le_of_ble_eq_true rfl) dX2_readSum_156 ⟨(Nat.le_of_ble_eq_true rfl), (Nat.le_of_ble_eq_true rfl)⟩ (fun u_ H locs hq132 hP hD hS => ?_)
              obtain ⟨kd2_128, bg2_129, nx2_130, q_131⟩ := u_
              replace hq132 : (0 ≤ nx2_130.toInt ∧ nx2_130.toInt ≤ 400) ∧ (0 ≤ bg2_129.toInt ∧ bg2_129.toInt ≤ 400) ∧ (zKd kd2_128.toInt bg2_129.toInt nx2_130.toInt) ∧ (q_131 = 0 ∨ q_131 = 1) := hq132
              have hP : va_P g.1 vwCl (List.flatten [bLT g lt ta lo, bLaw g lo lc lz2_124 ll lm lg ld fc2_125, bTape g ta ab sz ln kd2_128 bg2_129 nx2_130 x_5 fb]) H := hP
              have hD : va_D A (List.flatten [bLT g lt ta lo, bLaw g lo lc lz2_124 ll lm lg ld fc2_125, bTape g ta ab sz ln kd2_128 bg2_129 nx2_130 x_5 fb]) := hD
              refine W.widen (k := 0) (n := 0) (Nat.le_of_ble_eq_true rfl) (Nat.le_of_ble_eq_true rfl) ?_
              refine W.eq (g2 := F0 m 159 ls [.int q_131]) rfl ?_
              obtain ⟨hq132_0, hq132_1, hq132_2, hq132_3⟩ := hq132
              rcases hq132_3 with rfl | rfl
              · skip
                refine lv_if_ne (tgt := 164) hx hb dX2_readSum_159 (by decide) (fun c133 => absurd (by decide) c133) (fun _ => ?_)
                refine lv_iconst (v := 1) hx hb dX2_readSum_162 (by decide) ?_
                have hP : va_P g.1 vwCl (List.flatten [bLT g lt ta lo, bLaw g lo lc lz2_124 ll lm lg ld fc2_125, bTape g ta ab sz ln kd2_128 bg2_129 nx2_130 x_5 fb]) H := hP
                have hD : va_D A (List.flatten [bLT g lt ta lo, bLaw g lo lc lz2_124 ll lm lg ld fc2_125, bTape g ta ab sz ln kd2_128 bg2_129 nx2_130 x_5 fb]) := hD
                obtain ⟨hP, hD⟩ := zord (g := g) (Bs' := [bLT g lt ta lo, bTape g ta ab sz ln kd2_128 bg2_129 nx2_130 x_5 fb, bLaw g lo lc lz2_124 ll lm lg ld fc2_125]) [0, 2, 1] rfl rfl hP hD
                exact mret_z hx hb hr hlocks hS (Nat.le_of_ble_eq_true rfl) (Nat.le_of_ble_eq_true rfl) dX2_readSum_163 (kd2_128, bg2_129, nx2_130, x_5, lz2_124, fc2_125, (1 : Int32)) rfl (by decide) (show (0 ≤ lz2_124.toInt ∧ lz2_124.toInt ≤ 400) ∧ (-1 ≤ x_5.toInt) ∧ (0 ≤ nx2_130.toInt ∧ nx2_130.toInt ≤ 400) ∧ (0 ≤ bg2_129.toInt ∧ bg2_129.toInt ≤ 400) ∧ (zKd kd2_128.toInt bg2_129.toInt nx2_130.toInt) ∧ (1 = 0 ∨ 1 = 1) from ⟨hq127, i11, hq132_0, hq132_1, hq132_2, (by decide)⟩) hP hD
              · skip
                refine lv_if_ne (tgt := 164) hx hb dX2_readSum_159 (by decide) (fun _ => ?_) (fun c134 => absurd c134 (by decide))
                refine ziinc3 (n' := 1) (a' := 1) (b' := 400) (lv' := fun v9 => [(1, .int v9), (3, .int 0), (2, .int 3), (0, .ref lt)]) hx hb dX2_readSum_164 hl (k := 3) rfl (by decide) (fun _ => rfl) (zaddK (i := x_1.toInt) (j := 1) rfl (by decide) i8.1 n21 (Int.le_refl _) (Int.le_refl _) (by decide)) (fun x_135 ls hx_135 hl => ?_)
                refine lv_goto (tgt := 2) hx hb dX2_readSum_167 (by decide) ?_
                have hl := lv_sub (l' := [(0, .ref lt), (1, .int x_135), (2, .int 3), (3, .int 0)]) hl [3, 0, 2, 1] rfl
                have hP : va_P g.1 vwCl (List.flatten [bLT g lt ta lo, bLaw g lo lc lz2_124 ll lm lg ld fc2_125, bTape g ta ab sz ln kd2_128 bg2_129 nx2_130 x_5 fb]) H := hP
                have hD : va_D A (List.flatten [bLT g lt ta lo, bLaw g lo lc lz2_124 ll lm lg ld fc2_125, bTape g ta ab sz ln kd2_128 bg2_129 nx2_130 x_5 fb]) := hD
                obtain ⟨hP, hD⟩ := zord (g := g) (Bs' := [bLT g lt ta lo, bTape g ta ab sz ln kd2_128 bg2_129 nx2_130 x_5 fb, bLaw g lo lc lz2_124 ll lm lg ld fc2_125]) [0, 2, 1] rfl rfl hP hD
                have hP : va_P g.1 vwCl (List.flatten [bLT g lt ta lo, bTape g ta ab sz ln kd2_128 bg2_129 nx2_130 x_5 fb, bLaw g lo lc lz2_124 ll lm lg ld fc2_125]) H := hP
                have hD : va_D A (List.flatten [bLT g lt ta lo, bTape g ta ab sz ln kd2_128 bg2_129 nx2_130 x_5 fb, bLaw g lo lc lz2_124 ll lm lg ld fc2_125]) := hD
                exact ih2_15 x_135 kd2_128 bg2_129 nx2_130 x_5 lz2_124 fc2_125 ⟨(Int.le_trans (by decide) hx_135.2.1), hx_135.2.2⟩ ⟨hq132_1.1, hq132_1.2⟩ ⟨hq132_0.1, hq132_0.2⟩ i11 ⟨hq127.1, hq127.2⟩ hq132_2 H _ ls (zmK hx_135.1 (by decide) n21 (by decide) hk2_15)  hP hD hS (lv_sub hl [0, 1] rfl)
          · skip
            refine lv_if_eq (tgt := 41) hx hb dX2_readSum_34 (by decide) (fun c136 => absurd c136 (by decide)) (fun _ => ?_)
            refine lv_iconst (v := 2) hx hb dX2_readSum_37 (by decide) ?_
            refine lv_goto (tgt := 107) hx hb dX2_readSum_38 (by decide) ?_
            refine lv_istore_n (lv' := [(2, .int 2), (0, .ref lt), (1, .int x_1)]) hx hb dX2_readSum_107 rfl hl (by decide) rfl (fun ls hl => ?_)
            refine lv_iconst (v := 0) hx hb dX2_readSum_108 (by decide) ?_
            refine lv_istore_n (lv' := [(3, .int 0), (2, .int 2), (0, .ref lt), (1, .int x_1)]) hx hb dX2_readSum_109 rfl hl (by decide) rfl (fun ls hl => ?_)
            refine lv_iload_n hx hb dX2_readSum_110 rfl (lv_at hl 1 rfl) ?_
            refine lv_if_ne (tgt := 133) hx hb dX2_readSum_111 (by decide) (fun _ => ?_) (fun c137 => absurd c137 (by decide))
            refine lv_aload_n hx hb dX2_readSum_133 rfl (lv_at hl 2 rfl) ?_
            refine va_get (D := g.1) (ci := 2) (v := .ref ta) (C := RX2) (T := TX2) (N := 2) hx hb hts izRX2 hown hK hP 0 rfl rfl 0 (by decide) (hts _ k290) (fun x9 h9 => u_same (hts _ k291) x9 h9) rfl dX2_readSum_134 ?_
            refine mcallV' (g := g) (q0 := 0) (ci := 6) (As := []) (rest := []) St hK hT hA hP hD hS hl.1 [2] [0, 1] rfl rfl rfl (c_t_step l g ta ab sz ln x_2 x_3 x_4 x_5 fb hln i10) (cwV 0 hts (zgL (zl4 k296 k275 k276 k277) k271) rfl rfl rfl (by decide +kernel) ⟨Nat.le_of_ble_eq_true rfl, Nat.le_of_ble_eq_true rfl⟩) rfl rfl rfl rfl (Nat.le_of_ble_eq_true rfl) dX2_readSum_137 ⟨(Nat.le_of_ble_eq_true rfl), (Nat.le_of_ble_eq_true rfl)⟩ (fun u_ H locs hq141 hP hD hS => ?_)
            obtain ⟨kd2_138, bg2_139, nx2_140⟩ := u_
            replace hq141 : (0 ≤ nx2_140.toInt ∧ nx2_140.toInt ≤ 400) ∧ (0 ≤ bg2_139.toInt ∧ bg2_139.toInt ≤ 400) ∧ (zKd kd2_138.toInt bg2_139.toInt nx2_140.toInt) := hq141
            have hP : va_P g.1 vwCl (List.flatten [bLT g lt ta lo, bLaw g lo lc x_6 ll lm lg ld fc_7, bTape g ta ab sz ln kd2_138 bg2_139 nx2_140 x_5 fb]) H := hP
            have hD : va_D A (List.flatten [bLT g lt ta lo, bLaw g lo lc x_6 ll lm lg ld fc_7, bTape g ta ab sz ln kd2_138 bg2_139 nx2_140 x_5 fb]) := hD
            refine W.widen (k := 0) (n := 0) (Nat.le_of_ble_eq_true rfl) (Nat.le_of_ble_eq_true rfl) ?_
            refine W.eq (g2 := F0 m 140 ls []) rfl ?_
            obtain ⟨hq141_0, hq141_1, hq141_2⟩ := hq141
            refine lv_aload_n hx hb dX2_readSum_140 rfl (lv_at hl 2 rfl) ?_
            refine va_get (D := g.1) (ci := 2) (v := .ref lo) (C := RX2) (T := TX2) (N := 2) hx hb hts izRX2 hown hK hP 0 rfl rfl 1 (by decide) (hts _ k210) (fun _ h9 => h9) rfl dX2_readSum_141 ?_
            refine lv_iload_n hx hb dX2_readSum_144 rfl (lv_at hl 1 rfl) ?_
            refine lv_iload_n hx hb dX2_readSum_145 rfl (lv_at hl 0 rfl) ?_
            refine mcallV' (g := g) (q0 := 0) (ci := 1) (As := [.int 2, .int 0]) (rest := []) St hK hT hA hP hD hS hl.1 [1] [0, 2] rfl rfl rfl (c_l_put l g lo lc x_6 ll lm lg ld fc_7 2 0 i12) (cwV 2 hts (zgL (zl4 k297 k298 k299 k85) k202) rfl rfl rfl (by decide +kernel) ⟨Nat.le_of_ble_eq_true rfl, Nat.le_of_ble_eq_true rfl⟩) rfl rfl rfl rfl (Nat.le_of_ble_eq_true rfl) dX2_readSum_146 ⟨(Nat.le_of_ble_eq_true rfl), (Nat.le_of_ble_eq_true rfl)⟩ (fun u_ H locs hq145 hP hD hS => ?_)
            obtain ⟨lz2_142, fc2_143, q_144⟩ := u_
            replace hq145 : (0 ≤ lz2_142.toInt ∧ lz2_142.toInt ≤ 400) := hq145
            have hP : va_P g.1 vwCl (List.flatten [bLT g lt ta lo, bTape g ta ab sz ln kd2_138 bg2_139 nx2_140 x_5 fb, bLaw g lo lc lz2_142 ll lm lg ld fc2_143]) H := hP
            have hD : va_D A (List.flatten [bLT g lt ta lo, bTape g ta ab sz ln kd2_138 bg2_139 nx2_140 x_5 fb, bLaw g lo lc lz2_142 ll lm lg ld fc2_143]) := hD
            refine W.widen (k := 0) (n := 0) (Nat.le_of_ble_eq_true rfl) (Nat.le_of_ble_eq_true rfl) ?_
            refine W.eq (g2 := F0 m 149 ls [.int q_144]) rfl ?_
            refine lv_pop hx hb dX2_readSum_149 rfl ?_
            refine lv_aload_n hx hb dX2_readSum_150 rfl (lv_at hl 2 rfl) ?_
            refine va_get (D := g.1) (ci := 2) (v := .ref ta) (C := RX2) (T := TX2) (N := 2) hx hb hts izRX2 hown hK hP 0 rfl rfl 0 (by decide) (hts _ k290) (fun x9 h9 => u_same (hts _ k291) x9 h9) rfl dX2_readSum_151 ?_
            refine lv_bipush (v := 43) hx hb dX2_readSum_154 (by decide) ?_
            refine mcallV' (g := g) (q0 := 0) (ci := 6) (As := [.int 43]) (rest := []) St hK hT hA hP hD hS hl.1 [1] [0, 2] rfl rfl rfl (c_t_takeSign l g ta ab sz ln kd2_138 bg2_139 nx2_140 x_5 fb 43 hln hq141_0 hq141_1 hq141_2 i11) (cwV 1 hts (zgL (zl4 k300 k301 k302 k277) k286) rfl rfl rfl (by decide +kernel) ⟨Nat.le_of_ble_eq_true rfl, Nat.le_of_ble_eq_true rfl⟩) rfl rfl rfl rfl (Nat.le_of_ble_eq_true rfl) dX2_readSum_156 ⟨(Nat.le_of_ble_eq_true rfl), (Nat.le_of_ble_eq_true rfl)⟩ (fun u_ H locs hq150 hP hD hS => ?_)
            obtain ⟨kd2_146, bg2_147, nx2_148, q_149⟩ := u_
            replace hq150 : (0 ≤ nx2_148.toInt ∧ nx2_148.toInt ≤ 400) ∧ (0 ≤ bg2_147.toInt ∧ bg2_147.toInt ≤ 400) ∧ (zKd kd2_146.toInt bg2_147.toInt nx2_148.toInt) ∧ (q_149 = 0 ∨ q_149 = 1) := hq150
            have hP : va_P g.1 vwCl (List.flatten [bLT g lt ta lo, bLaw g lo lc lz2_142 ll lm lg ld fc2_143, bTape g ta ab sz ln kd2_146 bg2_147 nx2_148 x_5 fb]) H := hP
            have hD : va_D A (List.flatten [bLT g lt ta lo, bLaw g lo lc lz2_142 ll lm lg ld fc2_143, bTape g ta ab sz ln kd2_146 bg2_147 nx2_148 x_5 fb]) := hD
            refine W.widen (k := 0) (n := 0) (Nat.le_of_ble_eq_true rfl) (Nat.le_of_ble_eq_true rfl) ?_
            refine W.eq (g2 := F0 m 159 ls [.int q_149]) rfl ?_
            obtain ⟨hq150_0, hq150_1, hq150_2, hq150_3⟩ := hq150
            rcases hq150_3 with rfl | rfl
            · skip
              refine lv_if_ne (tgt := 164) hx hb dX2_readSum_159 (by decide) (fun c151 => absurd (by decide) c151) (fun _ => ?_)
              refine lv_iconst (v := 1) hx hb dX2_readSum_162 (by decide) ?_
              have hP : va_P g.1 vwCl (List.flatten [bLT g lt ta lo, bLaw g lo lc lz2_142 ll lm lg ld fc2_143, bTape g ta ab sz ln kd2_146 bg2_147 nx2_148 x_5 fb]) H := hP
              have hD : va_D A (List.flatten [bLT g lt ta lo, bLaw g lo lc lz2_142 ll lm lg ld fc2_143, bTape g ta ab sz ln kd2_146 bg2_147 nx2_148 x_5 fb]) := hD
              obtain ⟨hP, hD⟩ := zord (g := g) (Bs' := [bLT g lt ta lo, bTape g ta ab sz ln kd2_146 bg2_147 nx2_148 x_5 fb, bLaw g lo lc lz2_142 ll lm lg ld fc2_143]) [0, 2, 1] rfl rfl hP hD
              exact mret_z hx hb hr hlocks hS (Nat.le_of_ble_eq_true rfl) (Nat.le_of_ble_eq_true rfl) dX2_readSum_163 (kd2_146, bg2_147, nx2_148, x_5, lz2_142, fc2_143, (1 : Int32)) rfl (by decide) (show (0 ≤ lz2_142.toInt ∧ lz2_142.toInt ≤ 400) ∧ (-1 ≤ x_5.toInt) ∧ (0 ≤ nx2_148.toInt ∧ nx2_148.toInt ≤ 400) ∧ (0 ≤ bg2_147.toInt ∧ bg2_147.toInt ≤ 400) ∧ (zKd kd2_146.toInt bg2_147.toInt nx2_148.toInt) ∧ (1 = 0 ∨ 1 = 1) from ⟨hq145, i11, hq150_0, hq150_1, hq150_2, (by decide)⟩) hP hD
            · skip
              refine lv_if_ne (tgt := 164) hx hb dX2_readSum_159 (by decide) (fun _ => ?_) (fun c152 => absurd c152 (by decide))
              refine ziinc3 (n' := 1) (a' := 1) (b' := 400) (lv' := fun v9 => [(1, .int v9), (3, .int 0), (2, .int 2), (0, .ref lt)]) hx hb dX2_readSum_164 hl (k := 3) rfl (by decide) (fun _ => rfl) (zaddK (i := x_1.toInt) (j := 1) rfl (by decide) i8.1 n21 (Int.le_refl _) (Int.le_refl _) (by decide)) (fun x_153 ls hx_153 hl => ?_)
              refine lv_goto (tgt := 2) hx hb dX2_readSum_167 (by decide) ?_
              have hl := lv_sub (l' := [(0, .ref lt), (1, .int x_153), (2, .int 2), (3, .int 0)]) hl [3, 0, 2, 1] rfl
              have hP : va_P g.1 vwCl (List.flatten [bLT g lt ta lo, bLaw g lo lc lz2_142 ll lm lg ld fc2_143, bTape g ta ab sz ln kd2_146 bg2_147 nx2_148 x_5 fb]) H := hP
              have hD : va_D A (List.flatten [bLT g lt ta lo, bLaw g lo lc lz2_142 ll lm lg ld fc2_143, bTape g ta ab sz ln kd2_146 bg2_147 nx2_148 x_5 fb]) := hD
              obtain ⟨hP, hD⟩ := zord (g := g) (Bs' := [bLT g lt ta lo, bTape g ta ab sz ln kd2_146 bg2_147 nx2_148 x_5 fb, bLaw g lo lc lz2_142 ll lm lg ld fc2_143]) [0, 2, 1] rfl rfl hP hD
              have hP : va_P g.1 vwCl (List.flatten [bLT g lt ta lo, bTape g ta ab sz ln kd2_146 bg2_147 nx2_148 x_5 fb, bLaw g lo lc lz2_142 ll lm lg ld fc2_143]) H := hP
              have hD : va_D A (List.flatten [bLT g lt ta lo, bTape g ta ab sz ln kd2_146 bg2_147 nx2_148 x_5 fb, bLaw g lo lc lz2_142 ll lm lg ld fc2_143]) := hD
              exact ih2_15 x_153 kd2_146 bg2_147 nx2_148 x_5 lz2_142 fc2_143 ⟨(Int.le_trans (by decide) hx_153.2.1), hx_153.2.2⟩ ⟨hq150_1.1, hq150_1.2⟩ ⟨hq150_0.1, hq150_0.2⟩ i11 ⟨hq145.1, hq145.2⟩ hq150_2 H _ ls (zmK hx_153.1 (by decide) n21 (by decide) hk2_15)  hP hD hS (lv_sub hl [0, 1] rfl)
        · skip
          refine lv_if_eq (tgt := 25) hx hb dX2_readSum_18 (by decide) (fun c154 => absurd c154 (by decide)) (fun _ => ?_)
          refine lv_iconst (v := 1) hx hb dX2_readSum_21 (by decide) ?_
          refine lv_goto (tgt := 107) hx hb dX2_readSum_22 (by decide) ?_
          refine lv_istore_n (lv' := [(2, .int 1), (0, .ref lt), (1, .int x_1)]) hx hb dX2_readSum_107 rfl hl (by decide) rfl (fun ls hl => ?_)
          refine lv_iconst (v := 0) hx hb dX2_readSum_108 (by decide) ?_
          refine lv_istore_n (lv' := [(3, .int 0), (2, .int 1), (0, .ref lt), (1, .int x_1)]) hx hb dX2_readSum_109 rfl hl (by decide) rfl (fun ls hl => ?_)
          refine lv_iload_n hx hb dX2_readSum_110 rfl (lv_at hl 1 rfl) ?_
          refine lv_if_ne (tgt := 133) hx hb dX2_readSum_111 (by decide) (fun _ => ?_) (fun c155 => absurd c155 (by decide))
          refine lv_aload_n hx hb dX2_readSum_133 rfl (lv_at hl 2 rfl) ?_
          refine va_get (D := g.1) (ci := 2) (v := .ref ta) (C := RX2) (T := TX2) (N := 2) hx hb hts izRX2 hown hK hP 0 rfl rfl 0 (by decide) (hts _ k290) (fun x9 h9 => u_same (hts _ k291) x9 h9) rfl dX2_readSum_134 ?_
          refine mcallV' (g := g) (q0 := 0) (ci := 6) (As := []) (rest := []) St hK hT hA hP hD hS hl.1 [2] [0, 1] rfl rfl rfl (c_t_step l g ta ab sz ln x_2 x_3 x_4 x_5 fb hln i10) (cwV 0 hts (zgL (zl4 k296 k275 k276 k277) k271) rfl rfl rfl (by decide +kernel) ⟨Nat.le_of_ble_eq_true rfl, Nat.le_of_ble_eq_true rfl⟩) rfl rfl rfl rfl (Nat.le_of_ble_eq_true rfl) dX2_readSum_137 ⟨(Nat.le_of_ble_eq_true rfl), (Nat.le_of_ble_eq_true rfl)⟩ (fun u_ H locs hq159 hP hD hS => ?_)
          obtain ⟨kd2_156, bg2_157, nx2_158⟩ := u_
          replace hq159 : (0 ≤ nx2_158.toInt ∧ nx2_158.toInt ≤ 400) ∧ (0 ≤ bg2_157.toInt ∧ bg2_157.toInt ≤ 400) ∧ (zKd kd2_156.toInt bg2_157.toInt nx2_158.toInt) := hq159
          have hP : va_P g.1 vwCl (List.flatten [bLT g lt ta lo, bLaw g lo lc x_6 ll lm lg ld fc_7, bTape g ta ab sz ln kd2_156 bg2_157 nx2_158 x_5 fb]) H := hP
          have hD : va_D A (List.flatten [bLT g lt ta lo, bLaw g lo lc x_6 ll lm lg ld fc_7, bTape g ta ab sz ln kd2_156 bg2_157 nx2_158 x_5 fb]) := hD
          refine W.widen (k := 0) (n := 0) (Nat.le_of_ble_eq_true rfl) (Nat.le_of_ble_eq_true rfl) ?_
          refine W.eq (g2 := F0 m 140 ls []) rfl ?_
          obtain ⟨hq159_0, hq159_1, hq159_2⟩ := hq159
          refine lv_aload_n hx hb dX2_readSum_140 rfl (lv_at hl 2 rfl) ?_
          refine va_get (D := g.1) (ci := 2) (v := .ref lo) (C := RX2) (T := TX2) (N := 2) hx hb hts izRX2 hown hK hP 0 rfl rfl 1 (by decide) (hts _ k210) (fun _ h9 => h9) rfl dX2_readSum_141 ?_
          refine lv_iload_n hx hb dX2_readSum_144 rfl (lv_at hl 1 rfl) ?_
          refine lv_iload_n hx hb dX2_readSum_145 rfl (lv_at hl 0 rfl) ?_
          refine mcallV' (g := g) (q0 := 0) (ci := 1) (As := [.int 1, .int 0]) (rest := []) St hK hT hA hP hD hS hl.1 [1] [0, 2] rfl rfl rfl (c_l_put l g lo lc x_6 ll lm lg ld fc_7 1 0 i12) (cwV 2 hts (zgL (zl4 k297 k298 k299 k85) k202) rfl rfl rfl (by decide +kernel) ⟨Nat.le_of_ble_eq_true rfl, Nat.le_of_ble_eq_true rfl⟩) rfl rfl rfl rfl (Nat.le_of_ble_eq_true rfl) dX2_readSum_146 ⟨(Nat.le_of_ble_eq_true rfl), (Nat.le_of_ble_eq_true rfl)⟩ (fun u_ H locs hq163 hP hD hS => ?_)
          obtain ⟨lz2_160, fc2_161, q_162⟩ := u_
          replace hq163 : (0 ≤ lz2_160.toInt ∧ lz2_160.toInt ≤ 400) := hq163
          have hP : va_P g.1 vwCl (List.flatten [bLT g lt ta lo, bTape g ta ab sz ln kd2_156 bg2_157 nx2_158 x_5 fb, bLaw g lo lc lz2_160 ll lm lg ld fc2_161]) H := hP
          have hD : va_D A (List.flatten [bLT g lt ta lo, bTape g ta ab sz ln kd2_156 bg2_157 nx2_158 x_5 fb, bLaw g lo lc lz2_160 ll lm lg ld fc2_161]) := hD
          refine W.widen (k := 0) (n := 0) (Nat.le_of_ble_eq_true rfl) (Nat.le_of_ble_eq_true rfl) ?_
          refine W.eq (g2 := F0 m 149 ls [.int q_162]) rfl ?_
          refine lv_pop hx hb dX2_readSum_149 rfl ?_
          refine lv_aload_n hx hb dX2_readSum_150 rfl (lv_at hl 2 rfl) ?_
          refine va_get (D := g.1) (ci := 2) (v := .ref ta) (C := RX2) (T := TX2) (N := 2) hx hb hts izRX2 hown hK hP 0 rfl rfl 0 (by decide) (hts _ k290) (fun x9 h9 => u_same (hts _ k291) x9 h9) rfl dX2_readSum_151 ?_
          refine lv_bipush (v := 43) hx hb dX2_readSum_154 (by decide) ?_
          refine mcallV' (g := g) (q0 := 0) (ci := 6) (As := [.int 43]) (rest := []) St hK hT hA hP hD hS hl.1 [1] [0, 2] rfl rfl rfl (c_t_takeSign l g ta ab sz ln kd2_156 bg2_157 nx2_158 x_5 fb 43 hln hq159_0 hq159_1 hq159_2 i11) (cwV 1 hts (zgL (zl4 k300 k301 k302 k277) k286) rfl rfl rfl (by decide +kernel) ⟨Nat.le_of_ble_eq_true rfl, Nat.le_of_ble_eq_true rfl⟩) rfl rfl rfl rfl (Nat.le_of_ble_eq_true rfl) dX2_readSum_156 ⟨(Nat.le_of_ble_eq_true rfl), (Nat.le_of_ble_eq_true rfl)⟩ (fun u_ H locs hq168 hP hD hS => ?_)
          obtain ⟨kd2_164, bg2_165, nx2_166, q_167⟩ := u_
          replace hq168 : (0 ≤ nx2_166.toInt ∧ nx2_166.toInt ≤ 400) ∧ (0 ≤ bg2_165.toInt ∧ bg2_165.toInt ≤ 400) ∧ (zKd kd2_164.toInt bg2_165.toInt nx2_166.toInt) ∧ (q_167 = 0 ∨ q_167 = 1) := hq168
          have hP : va_P g.1 vwCl (List.flatten [bLT g lt ta lo, bLaw g lo lc lz2_160 ll lm lg ld fc2_161, bTape g ta ab sz ln kd2_164 bg2_165 nx2_166 x_5 fb]) H := hP
          have hD : va_D A (List.flatten [bLT g lt ta lo, bLaw g lo lc lz2_160 ll lm lg ld fc2_161, bTape g ta ab sz ln kd2_164 bg2_165 nx2_166 x_5 fb]) := hD
          refine W.widen (k := 0) (n := 0) (Nat.le_of_ble_eq_true rfl) (Nat.le_of_ble_eq_true rfl) ?_
          refine W.eq (g2 := F0 m 159 ls [.int q_167]) rfl ?_
          obtain ⟨hq168_0, hq168_1, hq168_2, hq168_3⟩ := hq168
          rcases hq168_3 with rfl | rfl
          · skip
            refine lv_if_ne (tgt := 164) hx hb dX2_readSum_159 (by decide) (fun c169 => absurd (by decide) c169) (fun _ => ?_)
            refine lv_iconst (v := 1) hx hb dX2_readSum_162 (by decide) ?_
            have hP : va_P g.1 vwCl (List.flatten [bLT g lt ta lo, bLaw g lo lc lz2_160 ll lm lg ld fc2_161, bTape g ta ab sz ln kd2_164 bg2_165 nx2_166 x_5 fb]) H := hP
            have hD : va_D A (List.flatten [bLT g lt ta lo, bLaw g lo lc lz2_160 ll lm lg ld fc2_161, bTape g ta ab sz ln kd2_164 bg2_165 nx2_166 x_5 fb]) := hD
            obtain ⟨hP, hD⟩ := zord (g := g) (Bs' := [bLT g lt ta lo, bTape g ta ab sz ln kd2_164 bg2_165 nx2_166 x_5 fb, bLaw g lo lc lz2_160 ll lm lg ld fc2_161]) [0, 2, 1] rfl rfl hP hD
            exact mret_z hx hb hr hlocks hS (Nat.le_of_ble_eq_true rfl) (Nat.le_of_ble_eq_true rfl) dX2_readSum_163 (kd2_164, bg2_165, nx2_166, x_5, lz2_160, fc2_161, (1 : Int32)) rfl (by decide) (show (0 ≤ lz2_160.toInt ∧ lz2_160.toInt ≤ 400) ∧ (-1 ≤ x_5.toInt) ∧ (0 ≤ nx2_166.toInt ∧ nx2_166.toInt ≤ 400) ∧ (0 ≤ bg2_165.toInt ∧ bg2_165.toInt ≤ 400) ∧ (zKd kd2_164.toInt bg2_165.toInt nx2_166.toInt) ∧ (1 = 0 ∨ 1 = 1) from ⟨hq163, i11, hq168_0, hq168_1, hq168_2, (by decide)⟩) hP hD
          · skip
            refine lv_if_ne (tgt := 164) hx hb dX2_readSum_159 (by decide) (fun _ => ?_) (fun c170 => absurd c170 (by decide))
            refine ziinc3 (n' := 1) (a' := 1) (b' := 400) (lv' := fun v9 => [(1, .int v9), (3, .int 0), (2, .int 1), (0, .ref lt)]) hx hb dX2_readSum_164 hl (k := 3) rfl (by decide) (fun _ => rfl) (zaddK (i := x_1.toInt) (j := 1) rfl (by decide) i8.1 n21 (Int.le_refl _) (Int.le_refl _) (by decide)) (fun x_171 ls hx_171 hl => ?_)
            refine lv_goto (tgt := 2) hx hb dX2_readSum_167 (by decide) ?_
            have hl := lv_sub (l' := [(0, .ref lt), (1, .int x_171), (2, .int 1), (3, .int 0)]) hl [3, 0, 2, 1] rfl
            have hP : va_P g.1 vwCl (List.flatten [bLT g lt ta lo, bLaw g lo lc lz2_160 ll lm lg ld fc2_161, bTape g ta ab sz ln kd2_164 bg2_165 nx2_166 x_5 fb]) H := hP
            have hD : va_D A (List.flatten [bLT g lt ta lo, bLaw g lo lc lz2_160 ll lm lg ld fc2_161, bTape g ta ab sz ln kd2_164 bg2_165 nx2_166 x_5 fb]) := hD
            obtain ⟨hP, hD⟩ := zord (g := g) (Bs' := [bLT g lt ta lo, bTape g ta ab sz ln kd2_164 bg2_165 nx2_166 x_5 fb, bLaw g lo lc lz2_160 ll lm lg ld fc2_161]) [0, 2, 1] rfl rfl hP hD
            have hP : va_P g.1 vwCl (List.flatten [bLT g lt ta lo, bTape g ta ab sz ln kd2_164 bg2_165 nx2_166 x_5 fb, bLaw g lo lc lz2_160 ll lm lg ld fc2_161]) H := hP
            have hD : va_D A (List.flatten [bLT g lt ta lo, bTape g ta ab sz ln kd2_164 bg2_165 nx2_166 x_5 fb, bLaw g lo lc lz2_160 ll lm lg ld fc2_161]) := hD
            exact ih2_15 x_171 kd2_164 bg2_165 nx2_166 x_5 lz2_160 fc2_161 ⟨(Int.le_trans (by decide) hx_171.2.1), hx_171.2.2⟩ ⟨hq168_1.1, hq168_1.2⟩ ⟨hq168_0.1, hq168_0.2⟩ i11 ⟨hq163.1, hq163.2⟩ hq168_2 H _ ls (zmK hx_171.1 (by decide) n21 (by decide) hk2_15)  hP hD hS (lv_sub hl [0, 1] rfl)
  have hL0 : (0 : Int32).toInt = 0 := by decide
  have hP : va_P g.1 vwCl (List.flatten [bLT g lt ta lo, bTape g ta ab sz ln kd bg nx ft fb, bLaw g lo lc lz ll lm lg ld fc]) s.heap := hP
  have hD : va_D A (List.flatten [bLT g lt ta lo, bTape g ta ab sz ln kd bg nx ft fb, bLaw g lo lc lz ll lm lg ld fc]) := hD
  exact LP2_14 _ 0 kd bg nx ft lz fc (by decide) ⟨hbg.1, hbg.2⟩ ⟨hnx.1, hnx.2⟩ (by first | omega | assumption | decide) ⟨b_lz.1, b_lz.2⟩ hkd s.heap _ ls (Nat.lt_succ_self _)  hP hD hS (lv_sub hl [0, 1] rfl)
