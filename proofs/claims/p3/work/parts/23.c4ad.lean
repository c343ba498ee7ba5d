set_option maxRecDepth 100000 in
set_option maxHeartbeats 4000000 in
theorem c_tt_readShares (l : Launch) (g : zG) (tt : Nat) (ta : Nat) (o : Nat) (ab : Nat) (sz : Int32) (ln : Int32) (kd : Int32) (bg : Int32) (nx : Int32) (ft : Int32) (fb : Nat → Int32) (a : Nat → Nat) (pe : Int32) (wo : Int32) (tx : Int32) (ch : Int32) (jo : Int32) (tr : Int32) (dy : Int32) (sd : Int32) (f : Nat → Nat → Int32) (b_pe : 0 ≤ pe.toInt ∧ pe.toInt ≤ 8) (b_wo : 0 ≤ wo.toInt ∧ wo.toInt ≤ 6) (rf : zZ4 f) (hln : 0 ≤ ln.toInt ∧ ln.toInt ≤ 400) (hnx : 0 ≤ nx.toInt ∧ nx.toInt ≤ 400) (hbg : 0 ≤ bg.toInt ∧ bg.toInt ≤ 400) (hkd : zKd kd.toInt bg.toInt nx.toInt) (hft : -1 ≤ ft.toInt) : zM' g l yX10_readShares (Cond.code yX10_readShares cX10_readShares 3 (some .boolean) :: zB) ({ frames := 2, cells := 0, slots := 0, locals := 45 } : Room) [.ref tt] [bTT g tt ta o, bTape g ta ab sz ln kd bg nx ft fb, bTown g o a pe wo tx ch jo tr dy sd f] (fun u : Int32 × Int32 × Int32 × Int32 × (Nat → Nat → Int32) × Int32 => (fun (kd2 : Int32) (bg2 : Int32) (nx2 : Int32) (ft2 : Int32) (f2 : Nat → Nat → Int32) (q : Int32) => some (.int q)) (u.1) (u.2.1) (u.2.2.1) (u.2.2.2.1) (u.2.2.2.2.1) (u.2.2.2.2.2)) (fun u : Int32 × Int32 × Int32 × Int32 × (Nat → Nat → Int32) × Int32 => (fun (kd2 : Int32) (bg2 : Int32) (nx2 : Int32) (ft2 : Int32) (f2 : Nat → Nat → Int32) (q : Int32) => (zZ4 f2) ∧ (-1 ≤ ft2.toInt) ∧ (0 ≤ nx2.toInt ∧ nx2.toInt ≤ 400) ∧ (0 ≤ bg2.toInt ∧ bg2.toInt ≤ 400) ∧ (zKd kd2.toInt bg2.toInt nx2.toInt) ∧ (q = 0 ∨ q = 1)) (u.1) (u.2.1) (u.2.2.1) (u.2.2.2.1) (u.2.2.2.2.1) (u.2.2.2.2.2)) (fun u : Int32 × Int32 × Int32 × Int32 × (Nat → Nat → Int32) × Int32 => (fun (kd2 : Int32) (bg2 : Int32) (nx2 : Int32) (ft2 : Int32) (f2 : Nat → Nat → Int32) (q : Int32) => [bTT g tt ta o, bTape g ta ab sz ln kd2 bg2 nx2 ft2 fb, bTown g o a pe wo tx ch jo tr dy sd f2]) (u.1) (u.2.1) (u.2.2.1) (u.2.2.2.1) (u.2.2.2.2.1) (u.2.2.2.2.2)) := by
  refine zM'.of (cc := cX10_readShares) (maxL := 3) (rt := (some .boolean)) (by decide) rfl (Nat.le_of_ble_eq_true rfl) ?_
  intro p e s m args below meth c A ls St hr hlocks hin hK hT hA hP hD hS hl
  obtain ⟨hx, hb, hml, hown, hts⟩ := id St
  have hl : lv_has ls 3 [(0, .ref tt)] := hl
  refine lv_aload_n hx hb dX10_readShares_0 rfl (lv_at hl 0 rfl) ?_
  refine va_get (D := g.1) (ci := 8) (v := .ref ta) (C := RX10) (T := TX10) (N := 2) hx hb hts izRX10 hown hK hP 0 rfl rfl 0 (by decide) (hts _ k441) (fun x9 h9 => u_same (hts _ k442) x9 h9) rfl dX10_readShares_1 ?_
  refine lv_iconst (v := 0) hx hb dX10_readShares_4 (by decide) ?_
  refine lv_aload_n hx hb dX10_readShares_5 rfl (lv_at hl 0 rfl) ?_
  refine va_get (D := g.1) (ci := 8) (v := .ref o) (C := RX10) (T := TX10) (N := 2) hx hb hts izRX10 hown hK hP 0 rfl rfl 1 (by decide) (hts _ k439) (fun _ h9 => h9) rfl dX10_readShares_6 ?_
  refine va_get (D := g.1) (ci := 7) (v := .int pe) (C := RX9) (T := TX9) (N := 19) hx hb hts izRX9 hown hK hP 3 rfl rfl 0 (by decide) (hts _ k440) (fun _ h9 => h9) rfl dX10_readShares_9 ?_
  refine lv_iconst (v := 1) hx hb dX10_readShares_12 (by decide) ?_
  refine lv_isub hx hb dX10_readShares_13 ?_
  refine zg3 (zsubK (i := pe.toInt) (j := 1) (a' := (-1)) (b' := 7) rfl (by decide) b_pe.1 b_pe.2 (Int.le_refl _) (Int.le_refl _) (by decide)) (fun x_1 hx_1 => ?_)
  have hL0 : (0 : Int32).toInt = 0 := by decide
  refine mcallV' (g := g) (q0 := 0) (ci := 6) (As := [.int 0, .int x_1]) (rest := []) St hK hT hA hP hD hS hl.1 [1] [0, 2] rfl rfl rfl (c_t_number l g ta ab sz ln kd bg nx ft fb 0 x_1 hln hnx hbg hkd hft) (cwV 2 hts (zgL (zl4 k445 k294 k295 k277) k273) rfl rfl rfl (by decide +kernel) ⟨Nat.le_of_ble_eq_true rfl, Nat.le_of_ble_eq_true rfl⟩) rfl rfl rfl rfl (Nat.le_of_ble_eq_true rfl) dX10_readShares_14 ⟨(Nat.le_of_ble_eq_true rfl), (Nat.le_of_ble_eq_true rfl)⟩ (fun u_ H locs hq7 hP hD hS => ?_)
  obtain ⟨kd2_2, bg2_3, nx2_4, ft2_5, q_6⟩ := u_
  replace hq7 : (0 ≤ nx2_4.toInt ∧ nx2_4.toInt ≤ 400) ∧ (0 ≤ bg2_3.toInt ∧ bg2_3.toInt ≤ 400) ∧ (zKd kd2_2.toInt bg2_3.toInt nx2_4.toInt) ∧ (-1 ≤ ft2_5.toInt) ∧ (zImp (¬ q_6.toInt = -1) ((0 : Int32).toInt ≤ q_6.toInt ∧ q_6.toInt ≤ x_1.toInt)) := hq7
  have hP : va_P g.1 vwCl (List.flatten [bTT g tt ta o, bTown g o a pe wo tx ch jo tr dy sd f, bTape g ta ab sz ln kd2_2 bg2_3 nx2_4 ft2_5 fb]) H := hP
  have hD : va_D A (List.flatten [bTT g tt ta o, bTown g o a pe wo tx ch jo tr dy sd f, bTape g ta ab sz ln kd2_2 bg2_3 nx2_4 ft2_5 fb]) := hD
  refine W.widen (k := 0) (n := 0) (Nat.le_of_ble_eq_true rfl) (Nat.le_of_ble_eq_true rfl) ?_
  refine W.eq (g2 := F0 m 17 ls [.int q_6]) rfl ?_
  obtain ⟨hq7_0, hq7_1, hq7_2, hq7_3, hq7_4⟩ := hq7
  refine lv_istore_n (lv' := [(1, .int q_6), (0, .ref tt)]) hx hb dX10_readShares_17 rfl hl (by decide) rfl (fun ls hl => ?_)
  refine lv_iload_n hx hb dX10_readShares_18 rfl (lv_at hl 0 rfl) ?_
  refine lv_iconst (v := (-1)) hx hb dX10_readShares_19 (by decide) ?_
  refine lv_icmp_ne (tgt := 25) hx hb dX10_readShares_20 (by decide) (fun cb9 => ?_) (fun cb9 => ?_)
  · skip
    have c8 : ¬ q_6.toInt = (-1) := zne cb9 rfl (by decide)
    have w9 := hq7_4 c8
    have w10 : 0 ≤ q_6.toInt ∧ q_6.toInt ≤ 7 := by omega
    refine lv_aload_n hx hb dX10_readShares_25 rfl (lv_at hl 1 rfl) ?_
    refine va_get (D := g.1) (ci := 8) (v := .ref ta) (C := RX10) (T := TX10) (N := 2) hx hb hts izRX10 hown hK hP 0 rfl rfl 0 (by decide) (hts _ k441) (fun x9 h9 => u_same (hts _ k442) x9 h9) rfl dX10_readShares_26 ?_
    refine lv_iconst (v := 0) hx hb dX10_readShares_29 (by decide) ?_
    refine lv_bipush (v := 99) hx hb dX10_readShares_30 (by decide) ?_
    have hL99 : (99 : Int32).toInt = 99 := by decide
    refine mcallV' (g := g) (q0 := 0) (ci := 6) (As := [.int 0, .int 99]) (rest := []) St hK hT hA hP hD hS hl.1 [2] [0, 1] rfl rfl rfl (c_t_number l g ta ab sz ln kd2_2 bg2_3 nx2_4 ft2_5 fb 0 99 hln hq7_0 hq7_1 hq7_2 hq7_3) (cwV 2 hts (zgL (zl4 k445 k294 k295 k277) k273) rfl rfl rfl (by decide +kernel) ⟨Nat.le_of_ble_eq_true rfl, Nat.le_of_ble_eq_true rfl⟩) rfl rfl rfl rfl (Nat.le_of_ble_eq_true rfl) dX10_readShares_32 ⟨(Nat.le_of_ble_eq_true rfl), (Nat.le_of_ble_eq_true rfl)⟩ (fun u_ H locs hq16 hP hD hS => ?_)
    obtain ⟨kd2_11, bg2_12, nx2_13, ft2_14, q_15⟩ := u_
    replace hq16 : (0 ≤ nx2_13.toInt ∧ nx2_13.toInt ≤ 400) ∧ (0 ≤ bg2_12.toInt ∧ bg2_12.toInt ≤ 400) ∧ (zKd kd2_11.toInt bg2_12.toInt nx2_13.toInt) ∧ (-1 ≤ ft2_14.toInt) ∧ (zImp (¬ q_15.toInt = -1) ((0 : Int32).toInt ≤ q_15.toInt ∧ q_15.toInt ≤ (99 : Int32).toInt)) := hq16
    have hP : va_P g.1 vwCl (List.flatten [bTT g tt ta o, bTown g o a pe wo tx ch jo tr dy sd f, bTape g ta ab sz ln kd2_11 bg2_12 nx2_13 ft2_14 fb]) H := hP
    have hD : va_D A (List.flatten [bTT g tt ta o, bTown g o a pe wo tx ch jo tr dy sd f, bTape g ta ab sz ln kd2_11 bg2_12 nx2_13 ft2_14 fb]) := hD
    refine W.widen (k := 0) (n := 0) (Nat.le_of_ble_eq_true rfl) (Nat.le_of_ble_eq_true rfl) ?_
    refine W.eq (g2 := F0 m 35 ls [.int q_15]) rfl ?_
    obtain ⟨hq16_0, hq16_1, hq16_2, hq16_3, hq16_4⟩ := hq16
    refine lv_istore_n (lv' := [(2, .int q_15), (1, .int q_6), (0, .ref tt)]) hx hb dX10_readShares_35 rfl hl (by decide) rfl (fun ls hl => ?_)
    refine lv_iload_n hx hb dX10_readShares_36 rfl (lv_at hl 0 rfl) ?_
    refine lv_iconst (v := (-1)) hx hb dX10_readShares_37 (by decide) ?_
    refine lv_icmp_ne (tgt := 43) hx hb dX10_readShares_38 (by decide) (fun cb9 => ?_) (fun cb9 => ?_)
    · skip
      have c17 : ¬ q_15.toInt = (-1) := zne cb9 rfl (by decide)
      have w18 := hq16_4 c17
      have w19 : 0 ≤ q_15.toInt ∧ q_15.toInt ≤ 99 := by omega
      refine lv_aload_n hx hb dX10_readShares_43 rfl (lv_at hl 2 rfl) ?_
      refine va_get (D := g.1) (ci := 8) (v := .ref o) (C := RX10) (T := TX10) (N := 2) hx hb hts izRX10 hown hK hP 0 rfl rfl 1 (by decide) (hts _ k439) (fun _ h9 => h9) rfl dX10_readShares_44 ?_
      refine va_get (D := g.1) (ci := 7) (v := .ref (a 2)) (C := RX9) (T := TX9) (N := 19) hx hb hts izRX9 hown hK hP 1 rfl rfl 10 (by decide) (hts _ k467) (fun _ h9 => h9) rfl dX10_readShares_47 ?_
      refine lv_iload_n hx hb dX10_readShares_50 rfl (lv_at hl 1 rfl) ?_
      refine lv_iload_n hx hb dX10_readShares_51 rfl (lv_at hl 0 rfl) ?_
      refine va_iast hx hb hK hP hD hS 4 0 rfl rfl (zinK (a := 0) (b := 7) w10.1 w10.2 (by decide)) dX10_readShares_52 (fun H locs hP hD hS => ?_)
      obtain ⟨f20, rf20, hP, hD⟩ : ∃ f20 : Nat → Nat → Int32, zZ4 f20 ∧ va_P g.1 vwCl (List.flatten [bTT g tt ta o, bTown g o a pe wo tx ch jo tr dy sd f20, bTape g ta ab sz ln kd2_11 bg2_12 nx2_13 ft2_14 fb]) H ∧ va_D A (List.flatten [bTT g tt ta o, bTown g o a pe wo tx ch jo tr dy sd f20, bTape g ta ab sz ln kd2_11 bg2_12 nx2_13 ft2_14 fb]) := ⟨zu f 2 (upd (f 2) q_6.toNatClampNeg q_15), (zZ4_u rf (by decide)), hP, hD⟩
      refine lv_iconst (v := 1) hx hb dX10_readShares_53 (by decide) ?_
      have hP : va_P g.1 vwCl (List.flatten [bTT g tt ta o, bTown g o a pe wo tx ch jo tr dy sd f20, bTape g ta ab sz ln kd2_11 bg2_12 nx2_13 ft2_14 fb]) H := hP
      have hD : va_D A (List.flatten [bTT g tt ta o, bTown g o a pe wo tx ch jo tr dy sd f20, bTape g ta ab sz ln kd2_11 bg2_12 nx2_13 ft2_14 fb]) := hD
      obtain ⟨hP, hD⟩ := zord (g := g) (Bs' := [bTT g tt ta o, bTape g ta ab sz ln kd2_11 bg2_12 nx2_13 ft2_14 fb, bTown g o a pe wo tx ch jo tr dy sd f20]) [0, 2, 1] rfl rfl hP hD
      exact mret_z hx hb hr hlocks hS (Nat.le_of_ble_eq_true rfl) (Nat.le_of_ble_eq_true rfl) dX10_readShares_54 (kd2_11, bg2_12, nx2_13, ft2_14, f20, (1 : Int32)) rfl (by decide) (show (zZ4 f20) ∧ (-1 ≤ ft2_14.toInt) ∧ (0 ≤ nx2_13.toInt ∧ nx2_13.toInt ≤ 400) ∧ (0 ≤ bg2_12.toInt ∧ bg2_12.toInt ≤ 400) ∧ (zKd kd2_11.toInt bg2_12.toInt nx2_13.toInt) ∧ (1 = 0 ∨ 1 = 1) from ⟨rf20, hq16_3, hq16_0, hq16_1, hq16_2, (by decide)⟩) hP hD
    · skip
      have c21 : q_15.toInt = (-1) := zeq cb9 rfl (by decide)
      have n22 : q_15.toInt ≤ (-1) := Int.le_trans (Int.le_of_eq c21) (Int.le_refl _)
      refine lv_iconst (v := 0) hx hb dX10_readShares_41 (by decide) ?_
      have hP : va_P g.1 vwCl (List.flatten [bTT g tt ta o, bTown g o a pe wo tx ch jo tr dy sd f, bTape g ta ab sz ln kd2_11 bg2_12 nx2_13 ft2_14 fb]) H := hP
      have hD : va_D A (List.flatten [bTT g tt ta o, bTown g o a pe wo tx ch jo tr dy sd f, bTape g ta ab sz ln kd2_11 bg2_12 nx2_13 ft2_14 fb]) := hD
      obtain ⟨hP, hD⟩ := zord (g := g) (Bs' := [bTT g tt ta o, bTape g ta ab sz ln kd2_11 bg2_12 nx2_13 ft2_14 fb, bTown g o a pe wo tx ch jo tr dy sd f]) [0, 2, 1] rfl rfl hP hD
      exact mret_z hx hb hr hlocks hS (Nat.le_of_ble_eq_true rfl) (Nat.le_of_ble_eq_true rfl) dX10_readShares_42 (kd2_11, bg2_12, nx2_13, ft2_14, f, (0 : Int32)) rfl (by decide) (show (zZ4 f) ∧ (-1 ≤ ft2_14.toInt) ∧ (0 ≤ nx2_13.toInt ∧ nx2_13.toInt ≤ 400) ∧ (0 ≤ bg2_12.toInt ∧ bg2_12.toInt ≤ 400) ∧ (zKd kd2_11.toInt bg2_12.toInt nx2_13.toInt) ∧ (0 = 0 ∨ 0 = 1) from ⟨rf, hq16_3, hq16_0, hq16_1, hq16_2, (by decide)⟩) hP hD
  · skip
    have c23 : q_6.toInt = (-1) := zeq cb9 rfl (by decide)
    have n24 : q_6.toInt ≤ (-1) := Int.le_trans (Int.le_of_eq c23) (Int.le_refl _)
    refine lv_iconst (v := 0) hx hb dX10_readShares_23 (by decide) ?_
    have hP : va_P g.1 vwCl (List.flatten [bTT g tt ta o, bTown g o a pe wo tx ch jo tr dy sd f, bTape g ta ab sz ln kd2_2 bg2_3 nx2_4 ft2_5 fb]) H := hP
    have hD : va_D A (List.flatten [bTT g tt ta o, bTown g o a pe wo tx ch jo tr dy sd f, bTape g ta ab sz ln kd2_2 bg2_3 nx2_4 ft2_5 fb]) := hD
    obtain ⟨hP, hD⟩ := zord (g := g) (Bs' := [bTT g tt ta o, bTape g ta ab sz ln kd2_2 bg2_3 nx2_4 ft2_5 fb, bTown g o a pe wo tx ch jo tr dy sd f]) [0, 2, 1] rfl rfl hP hD
    exact mret_z hx hb hr hlocks hS (Nat.le_of_ble_eq_true rfl) (Nat.le_of_ble_eq_true rfl) dX10_readShares_24 (kd2_2, bg2_3, nx2_4, ft2_5, f, (0 : Int32)) rfl (by decide) (show (zZ4 f) ∧ (-1 ≤ ft2_5.toInt) ∧ (0 ≤ nx2_4.toInt ∧ nx2_4.toInt ≤ 400) ∧ (0 ≤ bg2_3.toInt ∧ bg2_3.toInt ≤ 400) ∧ (zKd kd2_2.toInt bg2_3.toInt nx2_4.toInt) ∧ (0 = 0 ∨ 0 = 1) from ⟨rf, hq7_3, hq7_0, hq7_1, hq7_2, (by decide)⟩) hP hD
