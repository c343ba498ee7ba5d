set_option maxRecDepth 100000 in
set_option maxHeartbeats 4000000 in
theorem c_tt_readWork (l : Launch) (g : zG) (tt : Nat) (ta : Nat) (o : Nat) (ab : Nat) (sz : Int32) (ln : Int32) (kd : Int32) (bg : Int32) (nx : Int32) (ft : Int32) (fb : Nat → Int32) (a : Nat → Nat) (pe : Int32) (wo : Int32) (tx : Int32) (ch : Int32) (jo : Int32) (tr : Int32) (dy : Int32) (sd : Int32) (f : Nat → Nat → Int32) (b_pe : 0 ≤ pe.toInt ∧ pe.toInt ≤ 8) (b_wo : 0 ≤ wo.toInt ∧ wo.toInt ≤ 6) (rf : zZ4 f) (hln : 0 ≤ ln.toInt ∧ ln.toInt ≤ 400) (hnx : 0 ≤ nx.toInt ∧ nx.toInt ≤ 400) (hbg : 0 ≤ bg.toInt ∧ bg.toInt ≤ 400) (hkd : zKd kd.toInt bg.toInt nx.toInt) (hft : -1 ≤ ft.toInt) : zM' g l yX10_readWork (Cond.code yX10_readWork cX10_readWork 4 (some .boolean) :: zB) ({ frames := 7, cells := 0, slots := 0, locals := 149 } : Room) [.ref tt] [bTT g tt ta o, bTape g ta ab sz ln kd bg nx ft fb, bTown g o a pe wo tx ch jo tr dy sd f] (fun u : Int32 × Int32 × Int32 × Int32 × Int32 × (Nat → Nat → Int32) × Int32 => (fun (kd2 : Int32) (bg2 : Int32) (nx2 : Int32) (ft2 : Int32) (wo2 : Int32) (f2 : Nat → Nat → Int32) (q : Int32) => some (.int q)) (u.1) (u.2.1) (u.2.2.1) (u.2.2.2.1) (u.2.2.2.2.1) (u.2.2.2.2.2.1) (u.2.2.2.2.2.2)) (fun u : Int32 × Int32 × Int32 × Int32 × Int32 × (Nat → Nat → Int32) × Int32 => (fun (kd2 : Int32) (bg2 : Int32) (nx2 : Int32) (ft2 : Int32) (wo2 : Int32) (f2 : Nat → Nat → Int32) (q : Int32) => (0 ≤ wo2.toInt ∧ wo2.toInt ≤ 6) ∧ (zZ4 f2) ∧ (-1 ≤ ft2.toInt) ∧ (0 ≤ nx2.toInt ∧ nx2.toInt ≤ 400) ∧ (0 ≤ bg2.toInt ∧ bg2.toInt ≤ 400) ∧ (zKd kd2.toInt bg2.toInt nx2.toInt) ∧ (q = 0 ∨ q = 1)) (u.1) (u.2.1) (u.2.2.1) (u.2.2.2.1) (u.2.2.2.2.1) (u.2.2.2.2.2.1) (u.2.2.2.2.2.2)) (fun u : Int32 × Int32 × Int32 × Int32 × Int32 × (Nat → Nat → Int32) × Int32 => (fun (kd2 : Int32) (bg2 : Int32) (nx2 : Int32) (ft2 : Int32) (wo2 : Int32) (f2 : Nat → Nat → Int32) (q : Int32) => [bTT g tt ta o, bTape g ta ab sz ln kd2 bg2 nx2 ft2 fb, bTown g o a pe wo2 tx ch jo tr dy sd f2]) (u.1) (u.2.1) (u.2.2.1) (u.2.2.2.1) (u.2.2.2.2.1) (u.2.2.2.2.2.1) (u.2.2.2.2.2.2)) := by
  refine zM'.of (cc := cX10_readWork) (maxL := 4) (rt := (some .boolean)) (by decide) rfl (Nat.le_of_ble_eq_true rfl) ?_
  intro p e s m args below meth c A ls St hr hlocks hin hK hT hA hP hD hS hl
  obtain ⟨hx, hb, hml, hown, hts⟩ := id St
  have hl : lv_has ls 4 [(0, .ref tt)] := hl
  refine lv_aload_n hx hb dX10_readWork_0 rfl (lv_at hl 0 rfl) ?_
  refine va_get (D := g.1) (ci := 8) (v := .ref o) (C := RX10) (T := TX10) (N := 2) hx hb hts izRX10 hown hK hP 0 rfl rfl 1 (by decide) (hts _ k439) (fun _ h9 => h9) rfl dX10_readWork_1 ?_
  refine va_get (D := g.1) (ci := 7) (v := .int wo) (C := RX9) (T := TX9) (N := 19) hx hb hts izRX9 hown hK hP 3 rfl rfl 1 (by decide) (hts _ k455) (fun _ h9 => h9) rfl dX10_readWork_4 ?_
  refine lv_bipush (v := 6) hx hb dX10_readWork_7 (by decide) ?_
  refine lv_icmp_lt (tgt := 20) hx hb dX10_readWork_9 (by decide) (fun cb9 => ?_) (fun cb9 => ?_)
  · skip
    have c1 : wo.toInt < 6 := zlti cb9 rfl (by decide)
    have n2 : wo.toInt ≤ 5 := zL1 (b := 6) c1 (Int.le_refl _) (by decide)
    refine lv_aload_n hx hb dX10_readWork_20 rfl (lv_at hl 0 rfl) ?_
    refine va_get (D := g.1) (ci := 8) (v := .ref ta) (C := RX10) (T := TX10) (N := 2) hx hb hts izRX10 hown hK hP 0 rfl rfl 0 (by decide) (hts _ k441) (fun x9 h9 => u_same (hts _ k442) x9 h9) rfl dX10_readWork_21 ?_
    refine mcallV' (g := g) (q0 := 0) (ci := 6) (As := []) (rest := []) St hK hT hA hP hD hS hl.1 [1] [0, 2] rfl rfl rfl (c_t_step l g ta ab sz ln kd bg nx ft fb hln hnx) (cwV 0 hts (zgL (zl4 k444 k275 k276 k277) k271) rfl rfl rfl (by decide +kernel) ⟨Nat.le_of_ble_eq_true rfl, Nat.le_of_ble_eq_true rfl⟩) rfl rfl rfl rfl (Nat.le_of_ble_eq_true rfl) dX10_readWork_24 ⟨(Nat.le_of_ble_eq_true rfl), (Nat.le_of_ble_eq_true rfl)⟩ (fun u_ H locs hq6 hP hD hS => ?_)
    obtain ⟨kd2_3, bg2_4, nx2_5⟩ := u_
    replace hq6 : (0 ≤ nx2_5.toInt ∧ nx2_5.toInt ≤ 400) ∧ (0 ≤ bg2_4.toInt ∧ bg2_4.toInt ≤ 400) ∧ (zKd kd2_3.toInt bg2_4.toInt nx2_5.toInt) := hq6
    have hP : va_P g.1 vwCl (List.flatten [bTT g tt ta o, bTown g o a pe wo tx ch jo tr dy sd f, bTape g ta ab sz ln kd2_3 bg2_4 nx2_5 ft fb]) H := hP
    have hD : va_D A (List.flatten [bTT g tt ta o, bTown g o a pe wo tx ch jo tr dy sd f, bTape g ta ab sz ln kd2_3 bg2_4 nx2_5 ft fb]) := hD
    refine W.widen (k := 0) (n := 0) (Nat.le_of_ble_eq_true rfl) (Nat.le_of_ble_eq_true rfl) ?_
    refine W.eq (g2 := F0 m 27 ls []) rfl ?_
    obtain ⟨hq6_0, hq6_1, hq6_2⟩ := hq6
    refine lv_aload_n hx hb dX10_readWork_27 rfl (lv_at hl 0 rfl) ?_
    refine va_get (D := g.1) (ci := 8) (v := .ref ta) (C := RX10) (T := TX10) (N := 2) hx hb hts izRX10 hown hK hP 0 rfl rfl 0 (by decide) (hts _ k441) (fun x9 h9 => u_same (hts _ k442) x9 h9) rfl dX10_readWork_28 ?_
    refine lv_iconst (v := 1) hx hb dX10_readWork_31 (by decide) ?_
    refine lv_bipush (v := 99) hx hb dX10_readWork_32 (by decide) ?_
    have hL1 : (1 : Int32).toInt = 1 := by decide
    have hL99 : (99 : Int32).toInt = 99 := by decide
    refine mcallV' (g := g) (q0 := 0) (ci := 6) (As := [.int 1, .int 99]) (rest := []) St hK hT hA hP hD hS hl.1 [2] [0, 1] rfl rfl rfl (c_t_number l g ta ab sz ln kd2_3 bg2_4 nx2_5 ft fb 1 99 hln hq6_0 hq6_1 hq6_2 hft) (cwV 2 hts (zgL (zl4 k445 k294 k295 k277) k273) rfl rfl rfl (by decide +kernel) ⟨Nat.le_of_ble_eq_true rfl, Nat.le_of_ble_eq_true rfl⟩) rfl rfl rfl rfl (Nat.le_of_ble_eq_true rfl) dX10_readWork_34 ⟨(Nat.le_of_ble_eq_true rfl), (Nat.le_of_ble_eq_true rfl)⟩ (fun u_ H locs hq12 hP hD hS => ?_)
    obtain ⟨kd2_7, bg2_8, nx2_9, ft2_10, q_11⟩ := u_
    replace hq12 : (0 ≤ nx2_9.toInt ∧ nx2_9.toInt ≤ 400) ∧ (0 ≤ bg2_8.toInt ∧ bg2_8.toInt ≤ 400) ∧ (zKd kd2_7.toInt bg2_8.toInt nx2_9.toInt) ∧ (-1 ≤ ft2_10.toInt) ∧ (zImp (¬ q_11.toInt = -1) ((1 : Int32).toInt ≤ q_11.toInt ∧ q_11.toInt ≤ (99 : Int32).toInt)) := hq12
    have hP : va_P g.1 vwCl (List.flatten [bTT g tt ta o, bTown g o a pe wo tx ch jo tr dy sd f, bTape g ta ab sz ln kd2_7 bg2_8 nx2_9 ft2_10 fb]) H := hP
    have hD : va_D A (List.flatten [bTT g tt ta o, bTown g o a pe wo tx ch jo tr dy sd f, bTape g ta ab sz ln kd2_7 bg2_8 nx2_9 ft2_10 fb]) := hD
    refine W.widen (k := 0) (n := 0) (Nat.le_of_ble_eq_true rfl) (Nat.le_of_ble_eq_true rfl) ?_
    refine W.eq (g2 := F0 m 37 ls [.int q_11]) rfl ?_
    obtain ⟨hq12_0, hq12_1, hq12_2, hq12_3, hq12_4⟩ := hq12
    refine lv_istore_n (lv' := [(1, .int q_11), (0, .ref tt)]) hx hb dX10_readWork_37 rfl hl (by decide) rfl (fun ls hl => ?_)
    refine lv_iload_n hx hb dX10_readWork_38 rfl (lv_at hl 0 rfl) ?_
    refine lv_iconst (v := (-1)) hx hb dX10_readWork_39 (by decide) ?_
    refine lv_icmp_eq (tgt := 55) hx hb dX10_readWork_40 (by decide) (fun cb9 => ?_) (fun cb9 => ?_)
    · skip
      have c13 : q_11.toInt = (-1) := zeq cb9 rfl (by decide)
      have n14 : q_11.toInt ≤ (-1) := Int.le_trans (Int.le_of_eq c13) (Int.le_refl _)
      refine lv_iconst (v := 0) hx hb dX10_readWork_55 (by decide) ?_
      have hP : va_P g.1 vwCl (List.flatten [bTT g tt ta o, bTown g o a pe wo tx ch jo tr dy sd f, bTape g ta ab sz ln kd2_7 bg2_8 nx2_9 ft2_10 fb]) H := hP
      have hD : va_D A (List.flatten [bTT g tt ta o, bTown g o a pe wo tx ch jo tr dy sd f, bTape g ta ab sz ln kd2_7 bg2_8 nx2_9 ft2_10 fb]) := hD
      obtain ⟨hP, hD⟩ := zord (g := g) (Bs' := [bTT g tt ta o, bTape g ta ab sz ln kd2_7 bg2_8 nx2_9 ft2_10 fb, bTown g o a pe wo tx ch jo tr dy sd f]) [0, 2, 1] rfl rfl hP hD
      exact mret_z hx hb hr hlocks hS (Nat.le_of_ble_eq_true rfl) (Nat.le_of_ble_eq_true rfl) dX10_readWork_56 (kd2_7, bg2_8, nx2_9, ft2_10, wo, f, (0 : Int32)) rfl (by decide) (show (0 ≤ wo.toInt ∧ wo.toInt ≤ 6) ∧ (zZ4 f) ∧ (-1 ≤ ft2_10.toInt) ∧ (0 ≤ nx2_9.toInt ∧ nx2_9.toInt ≤ 400) ∧ (0 ≤ bg2_8.toInt ∧ bg2_8.toInt ≤ 400) ∧ (zKd kd2_7.toInt bg2_8.toInt nx2_9.toInt) ∧ (0 = 0 ∨ 0 = 1) from ⟨b_wo, rf, hq12_3, hq12_0, hq12_1, hq12_2, (by decide)⟩) hP hD
    · skip
      have c15 : ¬ q_11.toInt = (-1) := zne cb9 rfl (by decide)
      have w16 := hq12_4 c15
      have w17 : 1 ≤ q_11.toInt ∧ q_11.toInt ≤ 99 := by omega
      refine lv_aload_n hx hb dX10_readWork_43 rfl (lv_at hl 1 rfl) ?_
      refine va_get (D := g.1) (ci := 8) (v := .ref ta) (C := RX10) (T := TX10) (N := 2) hx hb hts izRX10 hown hK hP 0 rfl rfl 0 (by decide) (hts _ k441) (fun x9 h9 => u_same (hts _ k442) x9 h9) rfl dX10_readWork_44 ?_
      refine va_ldcS (q := g.2 58) hx hb hown (zra24 hT.2.1) dX10_readWork_47 ?_
      refine mcallV' (g := g) (q0 := 0) (ci := 6) (As := [.ref (g.2 58)]) (rest := []) St hK hT hA hP hD hS hl.1 [2] [0, 1] rfl rfl rfl (c_t_needWord l g ta ab sz ln kd2_7 bg2_8 nx2_9 ft2_10 fb (g.2 58) 24 zqa24 hln hq12_0 hq12_1 hq12_2 hq12_3 rfl zla24 zna24) (cwV 1 hts (zgL (zl4 k446 k447 k448 k277) k431) rfl rfl rfl (by decide +kernel) ⟨Nat.le_of_ble_eq_true rfl, Nat.le_of_ble_eq_true rfl⟩) rfl rfl rfl rfl (Nat.le_of_ble_eq_true rfl) dX10_readWork_49 ⟨(Nat.le_of_ble_eq_true rfl), (Nat.le_of_ble_eq_true rfl)⟩ (fun u_ H locs hq23 hP hD hS => ?_)
      obtain ⟨kd2_18, bg2_19, nx2_20, ft2_21, r_22⟩ := u_
      replace hq23 : (0 ≤ nx2_20.toInt ∧ nx2_20.toInt ≤ 400) ∧ (0 ≤ bg2_19.toInt ∧ bg2_19.toInt ≤ 400) ∧ (zKd kd2_18.toInt bg2_19.toInt nx2_20.toInt) ∧ (-1 ≤ ft2_21.toInt) ∧ (r_22 = 0 ∨ r_22 = 1) := hq23
      have hP : va_P g.1 vwCl (List.flatten [bTT g tt ta o, bTown g o a pe wo tx ch jo tr dy sd f, bTape g ta ab sz ln kd2_18 bg2_19 nx2_20 ft2_21 fb]) H := hP
      have hD : va_D A (List.flatten [bTT g tt ta o, bTown g o a pe wo tx ch jo tr dy sd f, bTape g ta ab sz ln kd2_18 bg2_19 nx2_20 ft2_21 fb]) := hD
      refine W.widen (k := 0) (n := 0) (Nat.le_of_ble_eq_true rfl) (Nat.le_of_ble_eq_true rfl) ?_
      refine W.eq (g2 := F0 m 52 ls [.int r_22]) rfl ?_
      obtain ⟨hq23_0, hq23_1, hq23_2, hq23_3, hq23_4⟩ := hq23
      rcases hq23_4 with rfl | rfl
      · skip
        refine lv_if_ne (tgt := 57) hx hb dX10_readWork_52 (by decide) (fun c24 => absurd (by decide) c24) (fun _ => ?_)
        refine lv_iconst (v := 0) hx hb dX10_readWork_55 (by decide) ?_
        have hP : va_P g.1 vwCl (List.flatten [bTT g tt ta o, bTown g o a pe wo tx ch jo tr dy sd f, bTape g ta ab sz ln kd2_18 bg2_19 nx2_20 ft2_21 fb]) H := hP
        have hD : va_D A (List.flatten [bTT g tt ta o, bTown g o a pe wo tx ch jo tr dy sd f, bTape g ta ab sz ln kd2_18 bg2_19 nx2_20 ft2_21 fb]) := hD
        obtain ⟨hP, hD⟩ := zord (g := g) (Bs' := [bTT g tt ta o, bTape g ta ab sz ln kd2_18 bg2_19 nx2_20 ft2_21 fb, bTown g o a pe wo tx ch jo tr dy sd f]) [0, 2, 1] rfl rfl hP hD
        exact mret_z hx hb hr hlocks hS (Nat.le_of_ble_eq_true rfl) (Nat.le_of_ble_eq_true rfl) dX10_readWork_56 (kd2_18, bg2_19, nx2_20, ft2_21, wo, f, (0 : Int32)) rfl (by decide) (show (0 ≤ wo.toInt ∧ wo.toInt ≤ 6) ∧ (zZ4 f) ∧ (-1 ≤ ft2_21.toInt) ∧ (0 ≤ nx2_20.toInt ∧ nx2_20.toInt ≤ 400) ∧ (0 ≤ bg2_19.toInt ∧ bg2_19.toInt ≤ 400) ∧ (zKd kd2_18.toInt bg2_19.toInt nx2_20.toInt) ∧ (0 = 0 ∨ 0 = 1) from ⟨b_wo, rf, hq23_3, hq23_0, hq23_1, hq23_2, (by decide)⟩) hP hD
      · skip
        refine lv_if_ne (tgt := 57) hx hb dX10_readWork_52 (by decide) (fun _ => ?_) (fun c25 => absurd c25 (by decide))
        refine lv_aload_n hx hb dX10_readWork_57 rfl (lv_at hl 1 rfl) ?_
        refine va_get (D := g.1) (ci := 8) (v := .ref ta) (C := RX10) (T := TX10) (N := 2) hx hb hts izRX10 hown hK hP 0 rfl rfl 0 (by decide) (hts _ k441) (fun x9 h9 => u_same (hts _ k442) x9 h9) rfl dX10_readWork_58 ?_
        refine lv_iconst (v := 0) hx hb dX10_readWork_61 (by decide) ?_
        refine lv_sipush (v := 799) hx hb dX10_readWork_62 (by decide) ?_
        have hL0 : (0 : Int32).toInt = 0 := by decide
        have hL799 : (799 : Int32).toInt = 799 := by decide
        refine mcallV' (g := g) (q0 := 0) (ci := 6) (As := [.int 0, .int 799]) (rest := []) St hK hT hA hP hD hS hl.1 [2] [0, 1] rfl rfl rfl (c_t_number l g ta ab sz ln kd2_18 bg2_19 nx2_20 ft2_21 fb 0 799 hln hq23_0 hq23_1 hq23_2 hq23_3) (cwV 2 hts (zgL (zl4 k445 k294 k295 k277) k273) rfl rfl rfl (by decide +kernel) ⟨Nat.le_of_ble_eq_true rfl, Nat.le_of_ble_eq_true rfl⟩) rfl rfl rfl rfl (Nat.le_of_ble_eq_true rfl) dX10_readWork_65 ⟨(Nat.le_of_ble_eq_true rfl), (Nat.le_of_ble_eq_true rfl)⟩ (fun u_ H locs hq31 hP hD hS => ?_)
        obtain ⟨kd2_26, bg2_27, nx2_28, ft2_29, q_30⟩ := u_
        replace hq31 : (0 ≤ nx2_28.toInt ∧ nx2_28.toInt ≤ 400) ∧ (0 ≤ bg2_27.toInt ∧ bg2_27.toInt ≤ 400) ∧ (zKd kd2_26.toInt bg2_27.toInt nx2_28.toInt) ∧ (-1 ≤ ft2_29.toInt) ∧ (zImp (¬ q_30.toInt = -1) ((0 : Int32).toInt ≤ q_30.toInt ∧ q_30.toInt ≤ (799 : Int32).toInt)) := hq31
        have hP : va_P g.1 vwCl (List.flatten [bTT g tt ta o, bTown g o a pe wo tx ch jo tr dy sd f, bTape g ta ab sz ln kd2_26 bg2_27 nx2_28 ft2_29 fb]) H := hP
        have hD : va_D A (List.flatten [bTT g tt ta o, bTown g o a pe wo tx ch jo tr dy sd f, bTape g ta ab sz ln kd2_26 bg2_27 nx2_28 ft2_29 fb]) := hD
        refine W.widen (k := 0) (n := 0) (Nat.le_of_ble_eq_true rfl) (Nat.le_of_ble_eq_true rfl) ?_
        refine W.eq (g2 := F0 m 68 ls [.int q_30]) rfl ?_
        obtain ⟨hq31_0, hq31_1, hq31_2, hq31_3, hq31_4⟩ := hq31
        refine lv_istore_n (lv' := [(2, .int q_30), (1, .int q_11), (0, .ref tt)]) hx hb dX10_readWork_68 rfl hl (by decide) rfl (fun ls hl => ?_)
        refine lv_iload_n hx hb dX10_readWork_69 rfl (lv_at hl 0 rfl) ?_
        refine lv_iconst (v := (-1)) hx hb dX10_readWork_70 (by decide) ?_
        refine lv_icmp_eq (tgt := 86) hx hb dX10_readWork_71 (by decide) (fun cb9 => ?_) (fun cb9 => ?_)
        · skip
          have c32 : q_30.toInt = (-1) := zeq cb9 rfl (by decide)
          have n33 : q_30.toInt ≤ (-1) := Int.le_trans (Int.le_of_eq c32) (Int.le_refl _)
          refine lv_iconst (v := 0) hx hb dX10_readWork_86 (by decide) ?_
          have hP : va_P g.1 vwCl (List.flatten [bTT g tt ta o, bTown g o a pe wo tx ch jo tr dy sd f, bTape g ta ab sz ln kd2_26 bg2_27 nx2_28 ft2_29 fb]) H := hP
          have hD : va_D A (List.flatten [bTT g tt ta o, bTown g o a pe wo tx ch jo tr dy sd f, bTape g ta ab sz ln kd2_26 bg2_27 nx2_28 ft2_29 fb]) := hD
          obtain ⟨hP, hD⟩ := zord (g := g) (Bs' := [bTT g tt ta o, bTape g ta ab sz ln kd2_26 bg2_27 nx2_28 ft2_29 fb, bTown g o a pe wo tx ch jo tr dy sd f]) [0, 2, 1] rfl rfl hP hD
          exact mret_z hx hb hr hlocks hS (Nat.le_of_ble_eq_true rfl) (Nat.le_of_ble_eq_true rfl) dX10_readWork_87 (kd2_26, bg2_27, nx2_28, ft2_29, wo, f, (0 : Int32)) rfl (by decide) (show (0 ≤ wo.toInt ∧ wo.toInt ≤ 6) ∧ (zZ4 f) ∧ (-1 ≤ ft2_29.toInt) ∧ (0 ≤ nx2_28.toInt ∧ nx2_28.toInt ≤ 400) ∧ (0 ≤ bg2_27.toInt ∧ bg2_27.toInt ≤ 400) ∧ (zKd kd2_26.toInt bg2_27.toInt nx2_28.toInt) ∧ (0 = 0 ∨ 0 = 1) from ⟨b_wo, rf, hq31_3, hq31_0, hq31_1, hq31_2, (by decide)⟩) hP hD
        · skip
          have c34 : ¬ q_30.toInt = (-1) := zne cb9 rfl (by decide)
          have w35 := hq31_4 c34
          have w36 : 0 ≤ q_30.toInt ∧ q_30.toInt ≤ 799 := by omega
          refine lv_aload_n hx hb dX10_readWork_74 rfl (lv_at hl 2 rfl) ?_
          refine va_get (D := g.1) (ci := 8) (v := .ref ta) (C := RX10) (T := TX10) (N := 2) hx hb hts izRX10 hown hK hP 0 rfl rfl 0 (by decide) (hts _ k441) (fun x9 h9 => u_same (hts _ k442) x9 h9) rfl dX10_readWork_75 ?_
          refine va_ldcS (q := g.2 60) hx hb hown (zra25 hT.2.1) dX10_readWork_78 ?_
          refine mcallV' (g := g) (q0 := 0) (ci := 6) (As := [.ref (g.2 60)]) (rest := []) St hK hT hA hP hD hS hl.1 [2] [0, 1] rfl rfl rfl (c_t_needWord l g ta ab sz ln kd2_26 bg2_27 nx2_28 ft2_29 fb (g.2 60) 25 zqa25 hln hq31_0 hq31_1 hq31_2 hq31_3 rfl zla25 zna25) (cwV 1 hts (zgL (zl4 k446 k447 k448 k277) k431) rfl rfl rfl (by decide +kernel) ⟨Nat.le_of_ble_eq_true rfl, Nat.le_of_ble_eq_true rfl⟩) rfl rfl rfl rfl (Nat.le_of_ble_eq_true rfl) dX10_readWork_80 ⟨(Nat.le_of_ble_eq_true rfl), (Nat.le_of_ble_eq_true rfl)⟩ (fun u_ H locs hq42 hP hD hS => ?_)
          obtain ⟨kd2_37, bg2_38, nx2_39, ft2_40, r_41⟩ := u_
          replace hq42 : (0 ≤ nx2_39.toInt ∧ nx2_39.toInt ≤ 400) ∧ (0 ≤ bg2_38.toInt ∧ bg2_38.toInt ≤ 400) ∧ (zKd kd2_37.toInt bg2_38.toInt nx2_39.toInt) ∧ (-1 ≤ ft2_40.toInt) ∧ (r_41 = 0 ∨ r_41 = 1) := hq42
          have hP : va_P g.1 vwCl (List.flatten [bTT g tt ta o, bTown g o a pe wo tx ch jo tr dy sd f, bTape g ta ab sz ln kd2_37 bg2_38 nx2_39 ft2_40 fb]) H := hP
          have hD : va_D A (List.flatten [bTT g tt ta o, bTown g o a pe wo tx ch jo tr dy sd f, bTape g ta ab sz ln kd2_37 bg2_38 nx2_39 ft2_40 fb]) := hD
          refine W.widen (k := 0) (n := 0) (Nat.le_of_ble_eq_true rfl) (Nat.le_of_ble_eq_true rfl) ?_
          refine W.eq (g2 := F0 m 83 ls [.int r_41]) rfl ?_
          obtain ⟨hq42_0, hq42_1, hq42_2, hq42_3, hq42_4⟩ := hq42
          rcases hq42_4 with rfl | rfl
          · skip
            refine lv_if_ne (tgt := 88) hx hb dX10_readWork_83 (by decide) (fun c43 => absurd (by decide) c43) (fun _ => ?_)
            refine lv_iconst (v := 0) hx hb dX10_readWork_86 (by decide) ?_
            have hP : va_P g.1 vwCl (List.flatten [bTT g tt ta o, bTown g o a pe wo tx ch jo tr dy sd f, bTape g ta ab sz ln kd2_37 bg2_38 nx2_39 ft2_40 fb]) H := hP
            have hD : va_D A (List.flatten [bTT g tt ta o, bTown g o a pe wo tx ch jo tr dy sd f, bTape g ta ab sz ln kd2_37 bg2_38 nx2_39 ft2_40 fb]) := hD
            obtain ⟨hP, hD⟩ := zord (g := g) (Bs' := [bTT g tt ta o, bTape g ta ab sz ln kd2_37 bg2_38 nx2_39 ft2_40 fb, bTown g o a pe wo tx ch jo tr dy sd f]) [0, 2, 1] rfl rfl hP hD
            exact mret_z hx hb hr hlocks hS (Nat.le_of_ble_eq_true rfl) (Nat.le_of_ble_eq_true rfl) dX10_readWork_87 (kd2_37, bg2_38, nx2_39, ft2_40, wo, f, (0 : Int32)) rfl (by decide) (show (0 ≤ wo.toInt ∧ wo.toInt ≤ 6) ∧ (zZ4 f) ∧ (-1 ≤ ft2_40.toInt) ∧ (0 ≤ nx2_39.toInt ∧ nx2_39.toInt ≤ 400) ∧ (0 ≤ bg2_38.toInt ∧ bg2_38.toInt ≤ 400) ∧ (zKd kd2_37.toInt bg2_38.toInt nx2_39.toInt) ∧ (0 = 0 ∨ 0 = 1) from ⟨b_wo, rf, hq42_3, hq42_0, hq42_1, hq42_2, (by decide)⟩) hP hD
          · skip
            refine lv_if_ne (tgt := 88) hx hb dX10_readWork_83 (by decide) (fun _ => ?_) (fun c44 => absurd c44 (by decide))
            refine lv_aload_n hx hb dX10_readWork_88 rfl (lv_at hl 2 rfl) ?_
            refine va_get (D := g.1) (ci := 8) (v := .ref ta) (C := RX10) (T := TX10) (N := 2) hx hb hts izRX10 hown hK hP 0 rfl rfl 0 (by decide) (hts _ k441) (fun x9 h9 => u_same (hts _ k442) x9 h9) rfl dX10_readWork_89 ?_
            refine lv_iconst (v := 0) hx hb dX10_readWork_92 (by decide) ?_
            refine lv_bipush (v := 20) hx hb dX10_readWork_93 (by decide) ?_
            have hL20 : (20 : Int32).toInt = 20 := by decide
            refine mcallV' (g := g) (q0 := 0) (ci := 6) (As := [.int 0, .int 20]) (rest := []) St hK hT hA hP hD hS hl.1 [2] [0, 1] rfl rfl rfl (c_t_number l g ta ab sz ln kd2_37 bg2_38 nx2_39 ft2_40 fb 0 20 hln hq42_0 hq42_1 hq42_2 hq42_3) (cwV 2 hts (zgL (zl4 k445 k294 k295 k277) k273) rfl rfl rfl (by decide +kernel) ⟨Nat.le_of_ble_eq_true rfl, Nat.le_of_ble_eq_true rfl⟩) rfl rfl rfl rfl (Nat.le_of_ble_eq_true rfl) dX10_readWork_95 ⟨(Nat.le_of_ble_eq_true rfl), (Nat.le_of_ble_eq_true rfl)⟩ (fun u_ H locs hq50 hP hD hS => ?_)
            obtain ⟨kd2_45, bg2_46, nx2_47, ft2_48, q_49⟩ := u_
            replace hq50 : (0 ≤ nx2_47.toInt ∧ nx2_47.toInt ≤ 400) ∧ (0 ≤ bg2_46.toInt ∧ bg2_46.toInt ≤ 400) ∧ (zKd kd2_45.toInt bg2_46.toInt nx2_47.toInt) ∧ (-1 ≤ ft2_48.toInt) ∧ (zImp (¬ q_49.toInt = -1) ((0 : Int32).toInt ≤ q_49.toInt ∧ q_49.toInt ≤ (20 : Int32).toInt)) := hq50
            have hP : va_P g.1 vwCl (List.flatten [bTT g tt ta o, bTown g o a pe wo tx ch jo tr dy sd f, bTape g ta ab sz ln kd2_45 bg2_46 nx2_47 ft2_48 fb]) H := hP
            have hD : va_D A (List.flatten [bTT g tt ta o, bTown g o a pe wo tx ch jo tr dy sd f, bTape g ta ab sz ln kd2_45 bg2_46 nx2_47 ft2_48 fb]) := hD
            refine W.widen (k := 0) (n := 0) (Nat.le_of_ble_eq_true rfl) (Nat.le_of_ble_eq_true rfl) ?_
            refine W.eq (g2 := F0 m 98 ls [.int q_49]) rfl ?_
            obtain ⟨hq50_0, hq50_1, hq50_2, hq50_3, hq50_4⟩ := hq50
            refine lv_istore_n (lv' := [(3, .int q_49), (2, .int q_30), (1, .int q_11), (0, .ref tt)]) hx hb dX10_readWork_98 rfl hl (by decide) rfl (fun ls hl => ?_)
            refine lv_iload_n hx hb dX10_readWork_99 rfl (lv_at hl 0 rfl) ?_
            refine lv_iconst (v := (-1)) hx hb dX10_readWork_100 (by decide) ?_
            refine lv_icmp_ne (tgt := 106) hx hb dX10_readWork_101 (by decide) (fun cb9 => ?_) (fun cb9 => ?_)
            · skip
              have c51 : ¬ q_49.toInt = (-1) := zne cb9 rfl (by decide)
              have w52 := hq50_4 c51
              have w53 : 0 ≤ q_49.toInt ∧ q_49.toInt ≤ 20 := by omega
              refine lv_aload_n hx hb dX10_readWork_106 rfl (lv_at hl 3 rfl) ?_
              refine va_get (D := g.1) (ci := 8) (v := .ref o) (C := RX10) (T := TX10) (N := 2) hx hb hts izRX10 hown hK hP 0 rfl rfl 1 (by decide) (hts _ k439) (fun _ h9 => h9) rfl dX10_readWork_107 ?_
              refine lv_iload_n hx hb dX10_readWork_110 rfl (lv_at hl 2 rfl) ?_
              refine lv_iload_n hx hb dX10_readWork_111 rfl (lv_at hl 1 rfl) ?_
              refine lv_iload_n hx hb dX10_readWork_112 rfl (lv_at hl 0 rfl) ?_
              refine mcallV' (g := g) (q0 := 0) (ci := 7) (As := [.int q_11, .int q_30, .int q_49]) (rest := []) St hK hT hA hP hD hS hl.1 [1] [0, 2] rfl rfl rfl (c_addWork l g o a pe wo tx ch jo tr dy sd f q_11 q_30 q_49 b_pe b_wo rf) (cwV 3 hts (zgL (zl4 k456 k457 k458 k24) k454) rfl rfl rfl (by decide +kernel) ⟨Nat.le_of_ble_eq_true rfl, Nat.le_of_ble_eq_true rfl⟩) rfl rfl rfl rfl (Nat.le_of_ble_eq_true rfl) dX10_readWork_113 ⟨(Nat.le_of_ble_eq_true rfl), (Nat.le_of_ble_eq_true rfl)⟩ (fun u_ H locs hq56 hP hD hS => ?_)
              obtain ⟨wo2_54, f2_55⟩ := u_
              replace hq56 : (0 ≤ wo2_54.toInt ∧ wo2_54.toInt ≤ 6) ∧ (zZ4 f2_55) := hq56
              have hP : va_P g.1 vwCl (List.flatten [bTT g tt ta o, bTape g ta ab sz ln kd2_45 bg2_46 nx2_47 ft2_48 fb, bTown g o a pe wo2_54 tx ch jo tr dy sd f2_55]) H := hP
              have hD : va_D A (List.flatten [bTT g tt ta o, bTape g ta ab sz ln kd2_45 bg2_46 nx2_47 ft2_48 fb, bTown g o a pe wo2_54 tx ch jo tr dy sd f2_55]) := hD
              refine W.widen (k := 0) (n := 0) (Nat.le_of_ble_eq_true rfl) (Nat.le_of_ble_eq_true rfl) ?_
              refine W.eq (g2 := F0 m 116 ls []) rfl ?_
              obtain ⟨hq56_0, rf2_55⟩ := hq56
              refine lv_iconst (v := 1) hx hb dX10_readWork_116 (by decide) ?_
              have hP : va_P g.1 vwCl (List.flatten [bTT g tt ta o, bTape g ta ab sz ln kd2_45 bg2_46 nx2_47 ft2_48 fb, bTown g o a pe wo2_54 tx ch jo tr dy sd f2_55]) H := hP
              have hD : va_D A (List.flatten [bTT g tt ta o, bTape g ta ab sz ln kd2_45 bg2_46 nx2_47 ft2_48 fb, bTown g o a pe wo2_54 tx ch jo tr dy sd f2_55]) := hD
              exact mret_z hx hb hr hlocks hS (Nat.le_of_ble_eq_true rfl) (Nat.le_of_ble_eq_true rfl) dX10_readWork_117 (kd2_45, bg2_46, nx2_47, ft2_48, wo2_54, f2_55, (1 : Int32)) rfl (by decide) (show (0 ≤ wo2_54.toInt ∧ wo2_54.toInt ≤ 6) ∧ (zZ4 f2_55) ∧ (-1 ≤ ft2_48.toInt) ∧ (0 ≤ nx2_47.toInt ∧ nx2_47.toInt ≤ 400) ∧ (0 ≤ bg2_46.toInt ∧ bg2_46.toInt ≤ 400) ∧ (zKd kd2_45.toInt bg2_46.toInt nx2_47.toInt) ∧ (1 = 0 ∨ 1 = 1) from ⟨hq56_0, rf2_55, hq50_3, hq50_0, hq50_1, hq50_2, (by decide)⟩) hP hD
            · skip
              have c57 : q_49.toInt = (-1) := zeq cb9 rfl (by decide)
              have n58 : q_49.toInt ≤ (-1) := Int.le_trans (Int.le_of_eq c57) (Int.le_refl _)
              refine lv_iconst (v := 0) hx hb dX10_readWork_104 (by decide) ?_
              have hP : va_P g.1 vwCl (List.flatten [bTT g tt ta o, bTown g o a pe wo tx ch jo tr dy sd f, bTape g ta ab sz ln kd2_45 bg2_46 nx2_47 ft2_48 fb]) H := hP
              have hD : va_D A (List.flatten [bTT g tt ta o, bTown g o a pe wo tx ch jo tr dy sd f, bTape g ta ab sz ln kd2_45 bg2_46 nx2_47 ft2_48 fb]) := hD
              obtain ⟨hP, hD⟩ := zord (g := g) (Bs' := [bTT g tt ta o, bTape g ta ab sz ln kd2_45 bg2_46 nx2_47 ft2_48 fb, bTown g o a pe wo tx ch jo tr dy sd f]) [0, 2, 1] rfl rfl hP hD
              exact mret_z hx hb hr hlocks hS (Nat.le_of_ble_eq_true rfl) (Nat.le_of_ble_eq_true rfl) dX10_readWork_105 (kd2_45, bg2_46, nx2_47, ft2_48, wo, f, (0 : Int32)) rfl (by decide) (show (0 ≤ wo.toInt ∧ wo.toInt ≤ 6) ∧ (zZ4 f) ∧ (-1 ≤ ft2_48.toInt) ∧ (0 ≤ nx2_47.toInt ∧ nx2_47.toInt ≤ 400) ∧ (0 ≤ bg2_46.toInt ∧ bg2_46.toInt ≤ 400) ∧ (zKd kd2_45.toInt bg2_46.toInt nx2_47.toInt) ∧ (0 = 0 ∨ 0 = 1) from ⟨b_wo, rf, hq50_3, hq50_0, hq50_1, hq50_2, (by decide)⟩) hP hD
  · skip
    have c59 : 6 ≤ wo.toInt := zle (Int32.not_lt.mp cb9) (by decide) rfl
    have n60 : 6 ≤ wo.toInt := Int.le_trans (Int.le_refl _) c59
    refine lv_aload_n hx hb dX10_readWork_12 rfl (lv_at hl 0 rfl) ?_
    refine va_get (D := g.1) (ci := 8) (v := .ref ta) (C := RX10) (T := TX10) (N := 2) hx hb hts izRX10 hown hK hP 0 rfl rfl 0 (by decide) (hts _ k441) (fun x9 h9 => u_same (hts _ k442) x9 h9) rfl dX10_readWork_13 ?_
    refine mcallV' (g := g) (q0 := 0) (ci := 6) (As := []) (rest := []) St hK hT hA hP hD hS hl.1 [1] [0, 2] rfl rfl rfl (c_t_refuse l g ta ab sz ln kd bg nx ft fb hln hnx hbg hkd hft) (cwV 0 hts (zgL (zl4 k443 k279 k280 k277) k269) rfl rfl rfl (by decide +kernel) ⟨Nat.le_of_ble_eq_true rfl, Nat.le_of_ble_eq_true rfl⟩) rfl rfl rfl rfl (Nat.le_of_ble_eq_true rfl) dX10_readWork_16 ⟨(Nat.le_of_ble_eq_true rfl), (Nat.le_of_ble_eq_true rfl)⟩ (fun ft2_61 H locs hq62 hP hD hS => ?_)
    replace hq62 : (-1 ≤ ft2_61.toInt) := hq62
    have hP : va_P g.1 vwCl (List.flatten [bTT g tt ta o, bTown g o a pe wo tx ch jo tr dy sd f, bTape g ta ab sz ln kd bg nx ft2_61 fb]) H := hP
    have hD : va_D A (List.flatten [bTT g tt ta o, bTown g o a pe wo tx ch jo tr dy sd f, bTape g ta ab sz ln kd bg nx ft2_61 fb]) := hD
    refine W.widen (k := 0) (n := 0) (Nat.le_of_ble_eq_true rfl) (Nat.le_of_ble_eq_true rfl) ?_
    refine W.eq (g2 := F0 m 19 ls [.int 0]) rfl ?_
    have hP : va_P g.1 vwCl (List.flatten [bTT g tt ta o, bTown g o a pe wo tx ch jo tr dy sd f, bTape g ta ab sz ln kd bg nx ft2_61 fb]) H := hP
    have hD : va_D A (List.flatten [bTT g tt ta o, bTown g o a pe wo tx ch jo tr dy sd f, bTape g ta ab sz ln kd bg nx ft2_61 fb]) := hD
    obtain ⟨hP, hD⟩ := zord (g := g) (Bs' := [bTT g tt ta o, bTape g ta ab sz ln kd bg nx ft2_61 fb, bTown g o a pe wo tx ch jo tr dy sd f]) [0, 2, 1] rfl rfl hP hD
    exact mret_z hx hb hr hlocks hS (Nat.le_of_ble_eq_true rfl) (Nat.le_of_ble_eq_true rfl) dX10_readWork_19 (kd, bg, nx, ft2_61, wo, f, (0 : Int32)) rfl (by decide) (show (0 ≤ wo.toInt ∧ wo.toInt ≤ 6) ∧ (zZ4 f) ∧ (-1 ≤ ft2_61.toInt) ∧ (0 ≤ nx.toInt ∧ nx.toInt ≤ 400) ∧ (0 ≤ bg.toInt ∧ bg.toInt ≤ 400) ∧ (zKd kd.toInt bg.toInt nx.toInt) ∧ (0 = 0 ∨ 0 = 1) from ⟨b_wo, rf, hq62, hnx, hbg, hkd, (by decide)⟩) hP hD
