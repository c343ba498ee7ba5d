set_option maxRecDepth 100000 in
set_option maxHeartbeats 4000000 in
theorem c_tt_readLine (l : Launch) (g : zG) (tt : Nat) (ta : Nat) (o : Nat) (ab : Nat) (sz : Int32) (ln : Int32) (kd : Int32) (bg : Int32) (nx : Int32) (ft : Int32) (fb : Nat → Int32) (a : Nat → Nat) (pe : Int32) (wo : Int32) (tx : Int32) (ch : Int32) (jo : Int32) (tr : Int32) (dy : Int32) (sd : Int32) (f : Nat → Nat → Int32) (b_pe : 0 ≤ pe.toInt ∧ pe.toInt ≤ 8) (b_wo : 0 ≤ wo.toInt ∧ wo.toInt ≤ 6) (rf : zZ4 f) (hln : 0 ≤ ln.toInt ∧ ln.toInt ≤ 400) (hnx : 0 ≤ nx.toInt ∧ nx.toInt ≤ 400) (hbg : 0 ≤ bg.toInt ∧ bg.toInt ≤ 400) (hkd : zKd kd.toInt bg.toInt nx.toInt) (hft : -1 ≤ ft.toInt) : zM' g l yX10_readLine (Cond.code yX10_readLine cX10_readLine 2 (some .boolean) :: zB) ({ frames := 8, cells := 0, slots := 0, locals := 172 } : Room) [.ref tt] [bTT g tt ta o, bTape g ta ab sz ln kd bg nx ft fb, bTown g o a pe wo tx ch jo tr dy sd f] (fun u : Int32 × Int32 × Int32 × Int32 × Int32 × Int32 × Int32 × Int32 × Int32 × Int32 × (Nat → Nat → Int32) × Int32 => (fun (kd2 : Int32) (bg2 : Int32) (nx2 : Int32) (ft2 : Int32) (pe2 : Int32) (wo2 : Int32) (ch2 : Int32) (jo2 : Int32) (tr2 : Int32) (dy2 : Int32) (f2 : Nat → Nat → Int32) (q : Int32) => some (.int q)) (u.1) (u.2.1) (u.2.2.1) (u.2.2.2.1) (u.2.2.2.2.1) (u.2.2.2.2.2.1) (u.2.2.2.2.2.2.1) (u.2.2.2.2.2.2.2.1) (u.2.2.2.2.2.2.2.2.1) (u.2.2.2.2.2.2.2.2.2.1) (u.2.2.2.2.2.2.2.2.2.2.1) (u.2.2.2.2.2.2.2.2.2.2.2)) (fun u : Int32 × Int32 × Int32 × Int32 × Int32 × Int32 × Int32 × Int32 × Int32 × Int32 × (Nat → Nat → Int32) × Int32 => (fun (kd2 : Int32) (bg2 : Int32) (nx2 : Int32) (ft2 : Int32) (pe2 : Int32) (wo2 : Int32) (ch2 : Int32) (jo2 : Int32) (tr2 : Int32) (dy2 : Int32) (f2 : Nat → Nat → Int32) (q : Int32) => (0 ≤ pe2.toInt ∧ pe2.toInt ≤ 8) ∧ (0 ≤ wo2.toInt ∧ wo2.toInt ≤ 6) ∧ (zZ4 f2) ∧ (-1 ≤ ft2.toInt) ∧ (0 ≤ nx2.toInt ∧ nx2.toInt ≤ 400) ∧ (0 ≤ bg2.toInt ∧ bg2.toInt ≤ 400) ∧ (zKd kd2.toInt bg2.toInt nx2.toInt) ∧ (q = 0 ∨ q = 1)) (u.1) (u.2.1) (u.2.2.1) (u.2.2.2.1) (u.2.2.2.2.1) (u.2.2.2.2.2.1) (u.2.2.2.2.2.2.1) (u.2.2.2.2.2.2.2.1) (u.2.2.2.2.2.2.2.2.1) (u.2.2.2.2.2.2.2.2.2.1) (u.2.2.2.2.2.2.2.2.2.2.1) (u.2.2.2.2.2.2.2.2.2.2.2)) (fun u : Int32 × Int32 × Int32 × Int32 × Int32 × Int32 × Int32 × Int32 × Int32 × Int32 × (Nat → Nat → Int32) × Int32 => (fun (kd2 : Int32) (bg2 : Int32) (nx2 : Int32) (ft2 : Int32) (pe2 : Int32) (wo2 : Int32) (ch2 : Int32) (jo2 : Int32) (tr2 : Int32) (dy2 : Int32) (f2 : Nat → Nat → Int32) (q : Int32) => [bTT g tt ta o, bTape g ta ab sz ln kd2 bg2 nx2 ft2 fb, bTown g o a pe2 wo2 tx ch2 jo2 tr2 dy2 sd f2]) (u.1) (u.2.1) (u.2.2.1) (u.2.2.2.1) (u.2.2.2.2.1) (u.2.2.2.2.2.1) (u.2.2.2.2.2.2.1) (u.2.2.2.2.2.2.2.1) (u.2.2.2.2.2.2.2.2.1) (u.2.2.2.2.2.2.2.2.2.1) (u.2.2.2.2.2.2.2.2.2.2.1) (u.2.2.2.2.2.2.2.2.2.2.2)) := by
  refine zM'.of (cc := cX10_readLine) (maxL := 2) (rt := (some .boolean)) (by decide) rfl (Nat.le_of_ble_eq_true rfl) ?_
  intro p e s m args below meth c A ls St hr hlocks hin hK hT hA hP hD hS hl
  obtain ⟨hx, hb, hml, hown, hts⟩ := id St
  have hl : lv_has ls 2 [(0, .ref tt)] := hl
  refine lv_aload_n hx hb dX10_readLine_0 rfl (lv_at hl 0 rfl) ?_
  refine va_get (D := g.1) (ci := 8) (v := .ref ta) (C := RX10) (T := TX10) (N := 2) hx hb hts izRX10 hown hK hP 0 rfl rfl 0 (by decide) (hts _ k441) (fun x9 h9 => u_same (hts _ k442) x9 h9) rfl dX10_readLine_1 ?_
  refine va_ldcS (q := g.2 38) hx hb hown (zra14 hT.2.1) dX10_readLine_4 ?_
  refine mcallV' (g := g) (q0 := 0) (ci := 6) (As := [.ref (g.2 38)]) (rest := []) St hK hT hA hP hD hS hl.1 [1] [0, 2] rfl rfl rfl (c_t_isWord l g ta ab sz ln kd bg nx ft fb (g.2 38) 14 zqa14 hln hnx hbg hkd hft rfl zla14 zna14) (cwV 1 hts (zgL (zl4 k472 k282 k283 k277) k268) rfl rfl rfl (by decide +kernel) ⟨Nat.le_of_ble_eq_true rfl, Nat.le_of_ble_eq_true rfl⟩) rfl rfl rfl rfl (Nat.le_of_ble_eq_true rfl) dX10_readLine_6 ⟨(Nat.le_of_ble_eq_true rfl), (Nat.le_of_ble_eq_true rfl)⟩ (fun r_1 H locs hq2 hP hD hS => ?_)
  replace hq2 : (r_1 = 0 ∨ r_1 = 1) := hq2
  have hP : va_P g.1 vwCl (List.flatten [bTT g tt ta o, bTown g o a pe wo tx ch jo tr dy sd f, bTape g ta ab sz ln kd bg nx ft fb]) H := hP
  have hD : va_D A (List.flatten [bTT g tt ta o, bTown g o a pe wo tx ch jo tr dy sd f, bTape g ta ab sz ln kd bg nx ft fb]) := hD
  refine W.widen (k := 0) (n := 0) (Nat.le_of_ble_eq_true rfl) (Nat.le_of_ble_eq_true rfl) ?_
  refine W.eq (g2 := F0 m 9 ls [.int r_1]) rfl ?_
  rcases hq2 with rfl | rfl
  · skip
    refine lv_if_eq (tgt := 17) hx hb dX10_readLine_9 (by decide) (fun _ => ?_) (fun c3 => absurd (by decide) c3)
    refine lv_aload_n hx hb dX10_readLine_17 rfl (lv_at hl 0 rfl) ?_
    refine va_get (D := g.1) (ci := 8) (v := .ref ta) (C := RX10) (T := TX10) (N := 2) hx hb hts izRX10 hown hK hP 0 rfl rfl 0 (by decide) (hts _ k441) (fun x9 h9 => u_same (hts _ k442) x9 h9) rfl dX10_readLine_18 ?_
    refine va_ldcS (q := g.2 40) hx hb hown (zra15 hT.2.1) dX10_readLine_21 ?_
    refine mcallV' (g := g) (q0 := 0) (ci := 6) (As := [.ref (g.2 40)]) (rest := []) St hK hT hA hP hD hS hl.1 [2] [0, 1] rfl rfl rfl (c_t_isWord l g ta ab sz ln kd bg nx ft fb (g.2 40) 15 zqa15 hln hnx hbg hkd hft rfl zla15 zna15) (cwV 1 hts (zgL (zl4 k472 k282 k283 k277) k268) rfl rfl rfl (by decide +kernel) ⟨Nat.le_of_ble_eq_true rfl, Nat.le_of_ble_eq_true rfl⟩) rfl rfl rfl rfl (Nat.le_of_ble_eq_true rfl) dX10_readLine_23 ⟨(Nat.le_of_ble_eq_true rfl), (Nat.le_of_ble_eq_true rfl)⟩ (fun r_4 H locs hq5 hP hD hS => ?_)
    replace hq5 : (r_4 = 0 ∨ r_4 = 1) := hq5
    have hP : va_P g.1 vwCl (List.flatten [bTT g tt ta o, bTown g o a pe wo tx ch jo tr dy sd f, bTape g ta ab sz ln kd bg nx ft fb]) H := hP
    have hD : va_D A (List.flatten [bTT g tt ta o, bTown g o a pe wo tx ch jo tr dy sd f, bTape g ta ab sz ln kd bg nx ft fb]) := hD
    refine W.widen (k := 0) (n := 0) (Nat.le_of_ble_eq_true rfl) (Nat.le_of_ble_eq_true rfl) ?_
    refine W.eq (g2 := F0 m 26 ls [.int r_4]) rfl ?_
    rcases hq5 with rfl | rfl
    · skip
      refine lv_if_eq (tgt := 34) hx hb dX10_readLine_26 (by decide) (fun _ => ?_) (fun c6 => absurd (by decide) c6)
      refine lv_aload_n hx hb dX10_readLine_34 rfl (lv_at hl 0 rfl) ?_
      refine va_get (D := g.1) (ci := 8) (v := .ref ta) (C := RX10) (T := TX10) (N := 2) hx hb hts izRX10 hown hK hP 0 rfl rfl 0 (by decide) (hts _ k441) (fun x9 h9 => u_same (hts _ k442) x9 h9) rfl dX10_readLine_35 ?_
      refine va_ldcS (q := g.2 42) hx hb hown (zra16 hT.2.1) dX10_readLine_38 ?_
      refine mcallV' (g := g) (q0 := 0) (ci := 6) (As := [.ref (g.2 42)]) (rest := []) St hK hT hA hP hD hS hl.1 [2] [0, 1] rfl rfl rfl (c_t_takeWord l g ta ab sz ln kd bg nx ft fb (g.2 42) 16 zqa16 hln hnx hbg hkd hft rfl zla16 zna16) (cwV 1 hts (zgL (zl4 k449 k311 k312 k277) k284) rfl rfl rfl (by decide +kernel) ⟨Nat.le_of_ble_eq_true rfl, Nat.le_of_ble_eq_true rfl⟩) rfl rfl rfl rfl (Nat.le_of_ble_eq_true rfl) dX10_readLine_40 ⟨(Nat.le_of_ble_eq_true rfl), (Nat.le_of_ble_eq_true rfl)⟩ (fun u_ H locs hq11 hP hD hS => ?_)
      obtain ⟨kd2_7, bg2_8, nx2_9, r_10⟩ := u_
      replace hq11 : (0 ≤ nx2_9.toInt ∧ nx2_9.toInt ≤ 400) ∧ (0 ≤ bg2_8.toInt ∧ bg2_8.toInt ≤ 400) ∧ (zKd kd2_7.toInt bg2_8.toInt nx2_9.toInt) ∧ (r_10 = 0 ∨ r_10 = 1) := hq11
      have hP : va_P g.1 vwCl (List.flatten [bTT g tt ta o, bTown g o a pe wo tx ch jo tr dy sd f, bTape g ta ab sz ln kd2_7 bg2_8 nx2_9 ft fb]) H := hP
      have hD : va_D A (List.flatten [bTT g tt ta o, bTown g o a pe wo tx ch jo tr dy sd f, bTape g ta ab sz ln kd2_7 bg2_8 nx2_9 ft fb]) := hD
      refine W.widen (k := 0) (n := 0) (Nat.le_of_ble_eq_true rfl) (Nat.le_of_ble_eq_true rfl) ?_
      refine W.eq (g2 := F0 m 43 ls [.int r_10]) rfl ?_
      obtain ⟨hq11_0, hq11_1, hq11_2, hq11_3⟩ := hq11
      rcases hq11_3 with rfl | rfl
      · skip
        refine lv_if_eq (tgt := 51) hx hb dX10_readLine_43 (by decide) (fun _ => ?_) (fun c12 => absurd (by decide) c12)
        refine lv_aload_n hx hb dX10_readLine_51 rfl (lv_at hl 0 rfl) ?_
        refine va_get (D := g.1) (ci := 8) (v := .ref ta) (C := RX10) (T := TX10) (N := 2) hx hb hts izRX10 hown hK hP 0 rfl rfl 0 (by decide) (hts _ k441) (fun x9 h9 => u_same (hts _ k442) x9 h9) rfl dX10_readLine_52 ?_
        refine va_ldcS (q := g.2 44) hx hb hown (zra17 hT.2.1) dX10_readLine_55 ?_
        refine mcallV' (g := g) (q0 := 0) (ci := 6) (As := [.ref (g.2 44)]) (rest := []) St hK hT hA hP hD hS hl.1 [2] [0, 1] rfl rfl rfl (c_t_takeWord l g ta ab sz ln kd2_7 bg2_8 nx2_9 ft fb (g.2 44) 17 zqa17 hln hq11_0 hq11_1 hq11_2 hft rfl zla17 zna17) (cwV 1 hts (zgL (zl4 k449 k311 k312 k277) k284) rfl rfl rfl (by decide +kernel) ⟨Nat.le_of_ble_eq_true rfl, Nat.le_of_ble_eq_true rfl⟩) rfl rfl rfl rfl (Nat.le_of_ble_eq_true rfl) dX10_readLine_57 ⟨(Nat.le_of_ble_eq_true rfl), (Nat.le_of_ble_eq_true rfl)⟩ (fun u_ H locs hq17 hP hD hS => ?_)
        obtain ⟨kd2_13, bg2_14, nx2_15, r_16⟩ := u_
        replace hq17 : (0 ≤ nx2_15.toInt ∧ nx2_15.toInt ≤ 400) ∧ (0 ≤ bg2_14.toInt ∧ bg2_14.toInt ≤ 400) ∧ (zKd kd2_13.toInt bg2_14.toInt nx2_15.toInt) ∧ (r_16 = 0 ∨ r_16 = 1) := hq17
        have hP : va_P g.1 vwCl (List.flatten [bTT g tt ta o, bTown g o a pe wo tx ch jo tr dy sd f, bTape g ta ab sz ln kd2_13 bg2_14 nx2_15 ft fb]) H := hP
        have hD : va_D A (List.flatten [bTT g tt ta o, bTown g o a pe wo tx ch jo tr dy sd f, bTape g ta ab sz ln kd2_13 bg2_14 nx2_15 ft fb]) := hD
        refine W.widen (k := 0) (n := 0) (Nat.le_of_ble_eq_true rfl) (Nat.le_of_ble_eq_true rfl) ?_
        refine W.eq (g2 := F0 m 60 ls [.int r_16]) rfl ?_
        obtain ⟨hq17_0, hq17_1, hq17_2, hq17_3⟩ := hq17
        rcases hq17_3 with rfl | rfl
        · skip
          refine lv_if_eq (tgt := 68) hx hb dX10_readLine_60 (by decide) (fun _ => ?_) (fun c18 => absurd (by decide) c18)
          refine lv_aload_n hx hb dX10_readLine_68 rfl (lv_at hl 0 rfl) ?_
          refine va_get (D := g.1) (ci := 8) (v := .ref ta) (C := RX10) (T := TX10) (N := 2) hx hb hts izRX10 hown hK hP 0 rfl rfl 0 (by decide) (hts _ k441) (fun x9 h9 => u_same (hts _ k442) x9 h9) rfl dX10_readLine_69 ?_
          refine va_ldcS (q := g.2 46) hx hb hown (zra18 hT.2.1) dX10_readLine_72 ?_
          refine mcallV' (g := g) (q0 := 0) (ci := 6) (As := [.ref (g.2 46)]) (rest := []) St hK hT hA hP hD hS hl.1 [2] [0, 1] rfl rfl rfl (c_t_takeWord l g ta ab sz ln kd2_13 bg2_14 nx2_15 ft fb (g.2 46) 18 zqa18 hln hq17_0 hq17_1 hq17_2 hft rfl zla18 zna18) (cwV 1 hts (zgL (zl4 k449 k311 k312 k277) k284) rfl rfl rfl (by decide +kernel) ⟨Nat.le_of_ble_eq_true rfl, Nat.le_of_ble_eq_true rfl⟩) rfl rfl rfl rfl (Nat.le_of_ble_eq_true rfl) dX10_readLine_74 ⟨(Nat.le_of_ble_eq_true rfl), (Nat.le_of_ble_eq_true rfl)⟩ (fun u_ H locs hq23 hP hD hS => ?_)
          obtain ⟨kd2_19, bg2_20, nx2_21, r_22⟩ := u_
          replace hq23 : (0 ≤ nx2_21.toInt ∧ nx2_21.toInt ≤ 400) ∧ (0 ≤ bg2_20.toInt ∧ bg2_20.toInt ≤ 400) ∧ (zKd kd2_19.toInt bg2_20.toInt nx2_21.toInt) ∧ (r_22 = 0 ∨ r_22 = 1) := hq23
          have hP : va_P g.1 vwCl (List.flatten [bTT g tt ta o, bTown g o a pe wo tx ch jo tr dy sd f, bTape g ta ab sz ln kd2_19 bg2_20 nx2_21 ft fb]) H := hP
          have hD : va_D A (List.flatten [bTT g tt ta o, bTown g o a pe wo tx ch jo tr dy sd f, bTape g ta ab sz ln kd2_19 bg2_20 nx2_21 ft fb]) := hD
          refine W.widen (k := 0) (n := 0) (Nat.le_of_ble_eq_true rfl) (Nat.le_of_ble_eq_true rfl) ?_
          refine W.eq (g2 := F0 m 77 ls [.int r_22]) rfl ?_
          obtain ⟨hq23_0, hq23_1, hq23_2, hq23_3⟩ := hq23
          rcases hq23_3 with rfl | rfl
          · skip
            refine lv_if_eq (tgt := 111) hx hb dX10_readLine_77 (by decide) (fun _ => ?_) (fun c24 => absurd (by decide) c24)
            refine lv_aload_n hx hb dX10_readLine_111 rfl (lv_at hl 0 rfl) ?_
            refine va_get (D := g.1) (ci := 8) (v := .ref ta) (C := RX10) (T := TX10) (N := 2) hx hb hts izRX10 hown hK hP 0 rfl rfl 0 (by decide) (hts _ k441) (fun x9 h9 => u_same (hts _ k442) x9 h9) rfl dX10_readLine_112 ?_
            refine va_ldcS (q := g.2 48) hx hb hown (zra19 hT.2.1) dX10_readLine_115 ?_
            refine mcallV' (g := g) (q0 := 0) (ci := 6) (As := [.ref (g.2 48)]) (rest := []) St hK hT hA hP hD hS hl.1 [2] [0, 1] rfl rfl rfl (c_t_takeWord l g ta ab sz ln kd2_19 bg2_20 nx2_21 ft fb (g.2 48) 19 zqa19 hln hq23_0 hq23_1 hq23_2 hft rfl zla19 zna19) (cwV 1 hts (zgL (zl4 k449 k311 k312 k277) k284) rfl rfl rfl (by decide +kernel) ⟨Nat.le_of_ble_eq_true rfl, Nat.le_of_ble_eq_true rfl⟩) rfl rfl rfl rfl (Nat.le_of_ble_eq_true rfl) dX10_readLine_117 ⟨(Nat.le_of_ble_eq_true rfl), (Nat.le_of_ble_eq_true rfl)⟩ (fun u_ H locs hq29 hP hD hS => ?_)
            obtain ⟨kd2_25, bg2_26, nx2_27, r_28⟩ := u_
            replace hq29 : (0 ≤ nx2_27.toInt ∧ nx2_27.toInt ≤ 400) ∧ (0 ≤ bg2_26.toInt ∧ bg2_26.toInt ≤ 400) ∧ (zKd kd2_25.toInt bg2_26.toInt nx2_27.toInt) ∧ (r_28 = 0 ∨ r_28 = 1) := hq29
            have hP : va_P g.1 vwCl (List.flatten [bTT g tt ta o, bTown g o a pe wo tx ch jo tr dy sd f, bTape g ta ab sz ln kd2_25 bg2_26 nx2_27 ft fb]) H := hP
            have hD : va_D A (List.flatten [bTT g tt ta o, bTown g o a pe wo tx ch jo tr dy sd f, bTape g ta ab sz ln kd2_25 bg2_26 nx2_27 ft fb]) := hD
            refine W.widen (k := 0) (n := 0) (Nat.le_of_ble_eq_true rfl) (Nat.le_of_ble_eq_true rfl) ?_
            refine W.eq (g2 := F0 m 120 ls [.int r_28]) rfl ?_
            obtain ⟨hq29_0, hq29_1, hq29_2, hq29_3⟩ := hq29
            rcases hq29_3 with rfl | rfl
            · skip
              refine lv_if_eq (tgt := 153) hx hb dX10_readLine_120 (by decide) (fun _ => ?_) (fun c30 => absurd (by decide) c30)
              refine lv_aload_n hx hb dX10_readLine_153 rfl (lv_at hl 0 rfl) ?_
              refine va_get (D := g.1) (ci := 8) (v := .ref ta) (C := RX10) (T := TX10) (N := 2) hx hb hts izRX10 hown hK hP 0 rfl rfl 0 (by decide) (hts _ k441) (fun x9 h9 => u_same (hts _ k442) x9 h9) rfl dX10_readLine_154 ?_
              refine va_ldcS (q := g.2 50) hx hb hown (zra20 hT.2.1) dX10_readLine_157 ?_
              refine mcallV' (g := g) (q0 := 0) (ci := 6) (As := [.ref (g.2 50)]) (rest := []) St hK hT hA hP hD hS hl.1 [2] [0, 1] rfl rfl rfl (c_t_takeWord l g ta ab sz ln kd2_25 bg2_26 nx2_27 ft fb (g.2 50) 20 zqa20 hln hq29_0 hq29_1 hq29_2 hft rfl zla20 zna20) (cwV 1 hts (zgL (zl4 k449 k311 k312 k277) k284) rfl rfl rfl (by decide +kernel) ⟨Nat.le_of_ble_eq_true rfl, Nat.le_of_ble_eq_true rfl⟩) rfl rfl rfl rfl (Nat.le_of_ble_eq_true rfl) dX10_readLine_159 ⟨(Nat.le_of_ble_eq_true rfl), (Nat.le_of_ble_eq_true rfl)⟩ (fun u_ H locs hq35 hP hD hS => ?_)
              obtain ⟨kd2_31, bg2_32, nx2_33, r_34⟩ := u_
              replace hq35 : (0 ≤ nx2_33.toInt ∧ nx2_33.toInt ≤ 400) ∧ (0 ≤ bg2_32.toInt ∧ bg2_32.toInt ≤ 400) ∧ (zKd kd2_31.toInt bg2_32.toInt nx2_33.toInt) ∧ (r_34 = 0 ∨ r_34 = 1) := hq35
              have hP : va_P g.1 vwCl (List.flatten [bTT g tt ta o, bTown g o a pe wo tx ch jo tr dy sd f, bTape g ta ab sz ln kd2_31 bg2_32 nx2_33 ft fb]) H := hP
              have hD : va_D A (List.flatten [bTT g tt ta o, bTown g o a pe wo tx ch jo tr dy sd f, bTape g ta ab sz ln kd2_31 bg2_32 nx2_33 ft fb]) := hD
              refine W.widen (k := 0) (n := 0) (Nat.le_of_ble_eq_true rfl) (Nat.le_of_ble_eq_true rfl) ?_
              refine W.eq (g2 := F0 m 162 ls [.int r_34]) rfl ?_
              obtain ⟨hq35_0, hq35_1, hq35_2, hq35_3⟩ := hq35
              rcases hq35_3 with rfl | rfl
              · skip
                refine lv_if_eq (tgt := 195) hx hb dX10_readLine_162 (by decide) (fun _ => ?_) (fun c36 => absurd (by decide) c36)
                refine lv_aload_n hx hb dX10_readLine_195 rfl (lv_at hl 0 rfl) ?_
                refine va_get (D := g.1) (ci := 8) (v := .ref ta) (C := RX10) (T := TX10) (N := 2) hx hb hts izRX10 hown hK hP 0 rfl rfl 0 (by decide) (hts _ k441) (fun x9 h9 => u_same (hts _ k442) x9 h9) rfl dX10_readLine_196 ?_
                refine va_ldcS (q := g.2 52) hx hb hown (zra21 hT.2.1) dX10_readLine_199 ?_
                refine mcallV' (g := g) (q0 := 0) (ci := 6) (As := [.ref (g.2 52)]) (rest := []) St hK hT hA hP hD hS hl.1 [2] [0, 1] rfl rfl rfl (c_t_takeWord l g ta ab sz ln kd2_31 bg2_32 nx2_33 ft fb (g.2 52) 21 zqa21 hln hq35_0 hq35_1 hq35_2 hft rfl zla21 zna21) (cwV 1 hts (zgL (zl4 k449 k311 k312 k277) k284) rfl rfl rfl (by decide +kernel) ⟨Nat.le_of_ble_eq_true rfl, Nat.le_of_ble_eq_true rfl⟩) rfl rfl rfl rfl (Nat.le_of_ble_eq_true rfl) dX10_readLine_201 ⟨(Nat.le_of_ble_eq_true rfl), (Nat.le_of_ble_eq_true rfl)⟩ (fun u_ H locs hq41 hP hD hS => ?_)
                obtain ⟨kd2_37, bg2_38, nx2_39, r_40⟩ := u_
                replace hq41 : (0 ≤ nx2_39.toInt ∧ nx2_39.toInt ≤ 400) ∧ (0 ≤ bg2_38.toInt ∧ bg2_38.toInt ≤ 400) ∧ (zKd kd2_37.toInt bg2_38.toInt nx2_39.toInt) ∧ (r_40 = 0 ∨ r_40 = 1) := hq41
                have hP : va_P g.1 vwCl (List.flatten [bTT g tt ta o, bTown g o a pe wo tx ch jo tr dy sd f, bTape g ta ab sz ln kd2_37 bg2_38 nx2_39 ft fb]) H := hP
                have hD : va_D A (List.flatten [bTT g tt ta o, bTown g o a pe wo tx ch jo tr dy sd f, bTape g ta ab sz ln kd2_37 bg2_38 nx2_39 ft fb]) := hD
                refine W.widen (k := 0) (n := 0) (Nat.le_of_ble_eq_true rfl) (Nat.le_of_ble_eq_true rfl) ?_
                refine W.eq (g2 := F0 m 204 ls [.int r_40]) rfl ?_
                obtain ⟨hq41_0, hq41_1, hq41_2, hq41_3⟩ := hq41
                rcases hq41_3 with rfl | rfl
                · skip
                  refine lv_if_eq (tgt := 238) hx hb dX10_readLine_204 (by decide) (fun _ => ?_) (fun c42 => absurd (by decide) c42)
                  refine lv_aload_n hx hb dX10_readLine_238 rfl (lv_at hl 0 rfl) ?_
                  refine va_get (D := g.1) (ci := 8) (v := .ref ta) (C := RX10) (T := TX10) (N := 2) hx hb hts izRX10 hown hK hP 0 rfl rfl 0 (by decide) (hts _ k441) (fun x9 h9 => u_same (hts _ k442) x9 h9) rfl dX10_readLine_239 ?_
                  refine mcallV' (g := g) (q0 := 0) (ci := 6) (As := []) (rest := []) St hK hT hA hP hD hS hl.1 [2] [0, 1] rfl rfl rfl (c_t_refuse l g ta ab sz ln kd2_37 bg2_38 nx2_39 ft fb hln hq41_0 hq41_1 hq41_2 hft) (cwV 0 hts (zgL (zl4 k443 k279 k280 k277) k269) rfl rfl rfl (by decide +kernel) ⟨Nat.le_of_ble_eq_true rfl, Nat.le_of_ble_eq_true rfl⟩) rfl rfl rfl rfl (Nat.le_of_ble_eq_true rfl) dX10_readLine_242 ⟨(Nat.le_of_ble_eq_true rfl), (Nat.le_of_ble_eq_true rfl)⟩ (fun ft2_43 H locs hq44 hP hD hS => ?_)
                  replace hq44 : (-1 ≤ ft2_43.toInt) := hq44
                  have hP : va_P g.1 vwCl (List.flatten [bTT g tt ta o, bTown g o a pe wo tx ch jo tr dy sd f, bTape g ta ab sz ln kd2_37 bg2_38 nx2_39 ft2_43 fb]) H := hP
                  have hD : va_D A (List.flatten [bTT g tt ta o, bTown g o a pe wo tx ch jo tr dy sd f, bTape g ta ab sz ln kd2_37 bg2_38 nx2_39 ft2_43 fb]) := hD
                  refine W.widen (k := 0) (n := 0) (Nat.le_of_ble_eq_true rfl) (Nat.le_of_ble_eq_true rfl) ?_
                  refine W.eq (g2 := F0 m 245 ls [.int 0]) rfl ?_
                  have hP : va_P g.1 vwCl (List.flatten [bTT g tt ta o, bTown g o a pe wo tx ch jo tr dy sd f, bTape g ta ab sz ln kd2_37 bg2_38 nx2_39 ft2_43 fb]) H := hP
                  have hD : va_D A (List.flatten [bTT g tt ta o, bTown g o a pe wo tx ch jo tr dy sd f, bTape g ta ab sz ln kd2_37 bg2_38 nx2_39 ft2_43 fb]) := hD
                  obtain ⟨hP, hD⟩ := zord (g := g) (Bs' := [bTT g tt ta o, bTape g ta ab sz ln kd2_37 bg2_38 nx2_39 ft2_43 fb, bTown g o a pe wo tx ch jo tr dy sd f]) [0, 2, 1] rfl rfl hP hD
                  exact mret_z hx hb hr hlocks hS (Nat.le_of_ble_eq_true rfl) (Nat.le_of_ble_eq_true rfl) dX10_readLine_245 (kd2_37, bg2_38, nx2_39, ft2_43, pe, wo, ch, jo, tr, dy, f, (0 : Int32)) rfl (by decide) (show (0 ≤ pe.toInt ∧ pe.toInt ≤ 8) ∧ (0 ≤ wo.toInt ∧ wo.toInt ≤ 6) ∧ (zZ4 f) ∧ (-1 ≤ ft2_43.toInt) ∧ (0 ≤ nx2_39.toInt ∧ nx2_39.toInt ≤ 400) ∧ (0 ≤ bg2_38.toInt ∧ bg2_38.toInt ≤ 400) ∧ (zKd kd2_37.toInt bg2_38.toInt nx2_39.toInt) ∧ (0 = 0 ∨ 0 = 1) from ⟨b_pe, b_wo, rf, hq44, hq41_0, hq41_1, hq41_2, (by decide)⟩) hP hD
                · skip
                  refine lv_if_eq (tgt := 238) hx hb dX10_readLine_204 (by decide) (fun c45 => absurd c45 (by decide)) (fun _ => ?_)
                  refine lv_aload_n hx hb dX10_readLine_207 rfl (lv_at hl 0 rfl) ?_
                  refine va_get (D := g.1) (ci := 8) (v := .ref ta) (C := RX10) (T := TX10) (N := 2) hx hb hts izRX10 hown hK hP 0 rfl rfl 0 (by decide) (hts _ k441) (fun x9 h9 => u_same (hts _ k442) x9 h9) rfl dX10_readLine_208 ?_
                  refine lv_iconst (v := 0) hx hb dX10_readLine_211 (by decide) ?_
                  refine lv_sipush (v := 999) hx hb dX10_readLine_212 (by decide) ?_
                  have hL0 : (0 : Int32).toInt = 0 := by decide
                  have hL999 : (999 : Int32).toInt = 999 := by decide
                  refine mcallV' (g := g) (q0 := 0) (ci := 6) (As := [.int 0, .int 999]) (rest := []) St hK hT hA hP hD hS hl.1 [2] [0, 1] rfl rfl rfl (c_t_number l g ta ab sz ln kd2_37 bg2_38 nx2_39 ft fb 0 999 hln hq41_0 hq41_1 hq41_2 hft) (cwV 2 hts (zgL (zl4 k445 k294 k295 k277) k273) rfl rfl rfl (by decide +kernel) ⟨Nat.le_of_ble_eq_true rfl, Nat.le_of_ble_eq_true rfl⟩) rfl rfl rfl rfl (Nat.le_of_ble_eq_true rfl) dX10_readLine_215 ⟨(Nat.le_of_ble_eq_true rfl), (Nat.le_of_ble_eq_true rfl)⟩ (fun u_ H locs hq51 hP hD hS => ?_)
                  obtain ⟨kd2_46, bg2_47, nx2_48, ft2_49, q_50⟩ := u_
                  replace hq51 : (0 ≤ nx2_48.toInt ∧ nx2_48.toInt ≤ 400) ∧ (0 ≤ bg2_47.toInt ∧ bg2_47.toInt ≤ 400) ∧ (zKd kd2_46.toInt bg2_47.toInt nx2_48.toInt) ∧ (-1 ≤ ft2_49.toInt) ∧ (zImp (¬ q_50.toInt = -1) ((0 : Int32).toInt ≤ q_50.toInt ∧ q_50.toInt ≤ (999 : Int32).toInt)) := hq51
                  have hP : va_P g.1 vwCl (List.flatten [bTT g tt ta o, bTown g o a pe wo tx ch jo tr dy sd f, bTape g ta ab sz ln kd2_46 bg2_47 nx2_48 ft2_49 fb]) H := hP
                  have hD : va_D A (List.flatten [bTT g tt ta o, bTown g o a pe wo tx ch jo tr dy sd f, bTape g ta ab sz ln kd2_46 bg2_47 nx2_48 ft2_49 fb]) := hD
                  refine W.widen (k := 0) (n := 0) (Nat.le_of_ble_eq_true rfl) (Nat.le_of_ble_eq_true rfl) ?_
                  refine W.eq (g2 := F0 m 218 ls [.int q_50]) rfl ?_
                  obtain ⟨hq51_0, hq51_1, hq51_2, hq51_3, hq51_4⟩ := hq51
                  refine lv_istore_n (lv' := [(1, .int q_50), (0, .ref tt)]) hx hb dX10_readLine_218 rfl hl (by decide) rfl (fun ls hl => ?_)
                  refine lv_aload_n hx hb dX10_readLine_219 rfl (lv_at hl 1 rfl) ?_
                  refine va_get (D := g.1) (ci := 8) (v := .ref o) (C := RX10) (T := TX10) (N := 2) hx hb hts izRX10 hown hK hP 0 rfl rfl 1 (by decide) (hts _ k439) (fun _ h9 => h9) rfl dX10_readLine_220 ?_
                  refine lv_iload_n hx hb dX10_readLine_223 rfl (lv_at hl 0 rfl) ?_
                  refine va_put (D := g.1) (ci := 7) (v := .int q_50) (ty := .int) (C := RX9) (T := TX9) (N := 19) hx hb hts izRX9 tyX9 tyX9_ok nmX9 hown hK hP hD hS 1 rfl rfl 6 (by decide) (hts _ k471) (fun _ h9 => h9) rfl (by decide +kernel) rfl rfl (Nat.le_of_ble_eq_true rfl) dX10_readLine_224 (fun H locs hP hD hS => ?_)
                  have hP : va_P g.1 vwCl (List.flatten [bTT g tt ta o, bTown g o a pe wo tx ch jo tr q_50 sd f, bTape g ta ab sz ln kd2_46 bg2_47 nx2_48 ft2_49 fb]) H := hP
                  have hD : va_D A (List.flatten [bTT g tt ta o, bTown g o a pe wo tx ch jo tr q_50 sd f, bTape g ta ab sz ln kd2_46 bg2_47 nx2_48 ft2_49 fb]) := hD
                  refine lv_iload_n hx hb dX10_readLine_227 rfl (lv_at hl 0 rfl) ?_
                  refine lv_iconst (v := (-1)) hx hb dX10_readLine_228 (by decide) ?_
                  refine lv_icmp_eq (tgt := 236) hx hb dX10_readLine_229 (by decide) (fun cb9 => ?_) (fun cb9 => ?_)
                  · skip
                    have c52 : q_50.toInt = (-1) := zeq cb9 rfl (by decide)
                    have n53 : q_50.toInt ≤ (-1) := Int.le_trans (Int.le_of_eq c52) (Int.le_refl _)
                    refine lv_iconst (v := 0) hx hb dX10_readLine_236 (by decide) ?_
                    have hP : va_P g.1 vwCl (List.flatten [bTT g tt ta o, bTown g o a pe wo tx ch jo tr q_50 sd f, bTape g ta ab sz ln kd2_46 bg2_47 nx2_48 ft2_49 fb]) H := hP
                    have hD : va_D A (List.flatten [bTT g tt ta o, bTown g o a pe wo tx ch jo tr q_50 sd f, bTape g ta ab sz ln kd2_46 bg2_47 nx2_48 ft2_49 fb]) := hD
                    obtain ⟨hP, hD⟩ := zord (g := g) (Bs' := [bTT g tt ta o, bTape g ta ab sz ln kd2_46 bg2_47 nx2_48 ft2_49 fb, bTown g o a pe wo tx ch jo tr q_50 sd f]) [0, 2, 1] rfl rfl hP hD
                    exact mret_z hx hb hr hlocks hS (Nat.le_of_ble_eq_true rfl) (Nat.le_of_ble_eq_true rfl) dX10_readLine_237 (kd2_46, bg2_47, nx2_48, ft2_49, pe, wo, ch, jo, tr, q_50, f, (0 : Int32)) rfl (by decide) (show (0 ≤ pe.toInt ∧ pe.toInt ≤ 8) ∧ (0 ≤ wo.toInt ∧ wo.toInt ≤ 6) ∧ (zZ4 f) ∧ (-1 ≤ ft2_49.toInt) ∧ (0 ≤ nx2_48.toInt ∧ nx2_48.toInt ≤ 400) ∧ (0 ≤ bg2_47.toInt ∧ bg2_47.toInt ≤ 400) ∧ (zKd kd2_46.toInt bg2_47.toInt nx2_48.toInt) ∧ (0 = 0 ∨ 0 = 1) from ⟨b_pe, b_wo, rf, hq51_3, hq51_0, hq51_1, hq51_2, (by decide)⟩) hP hD
                  · skip
                    have c54 : ¬ q_50.toInt = (-1) := zne cb9 rfl (by decide)
                    have w55 := hq51_4 c54
                    have w56 : 0 ≤ q_50.toInt ∧ q_50.toInt ≤ 999 := by omega
                    refine lv_iconst (v := 1) hx hb dX10_readLine_232 (by decide) ?_
                    refine lv_goto (tgt := 237) hx hb dX10_readLine_233 (by decide) ?_
                    have hP : va_P g.1 vwCl (List.flatten [bTT g tt ta o, bTown g o a pe wo tx ch jo tr q_50 sd f, bTape g ta ab sz ln kd2_46 bg2_47 nx2_48 ft2_49 fb]) H := hP
                    have hD : va_D A (List.flatten [bTT g tt ta o, bTown g o a pe wo tx ch jo tr q_50 sd f, bTape g ta ab sz ln kd2_46 bg2_47 nx2_48 ft2_49 fb]) := hD
                    obtain ⟨hP, hD⟩ := zord (g := g) (Bs' := [bTT g tt ta o, bTape g ta ab sz ln kd2_46 bg2_47 nx2_48 ft2_49 fb, bTown g o a pe wo tx ch jo tr q_50 sd f]) [0, 2, 1] rfl rfl hP hD
                    exact mret_z hx hb hr hlocks hS (Nat.le_of_ble_eq_true rfl) (Nat.le_of_ble_eq_true rfl) dX10_readLine_237 (kd2_46, bg2_47, nx2_48, ft2_49, pe, wo, ch, jo, tr, q_50, f, (1 : Int32)) rfl (by decide) (show (0 ≤ pe.toInt ∧ pe.toInt ≤ 8) ∧ (0 ≤ wo.toInt ∧ wo.toInt ≤ 6) ∧ (zZ4 f) ∧ (-1 ≤ ft2_49.toInt) ∧ (0 ≤ nx2_48.toInt ∧ nx2_48.toInt ≤ 400) ∧ (0 ≤ bg2_47.toInt ∧ bg2_47.toInt ≤ 400) ∧ (zKd kd2_46.toInt bg2_47.toInt nx2_48.toInt) ∧ (1 = 0 ∨ 1 = 1) from ⟨b_pe, b_wo, rf, hq51_3, hq51_0, hq51_1, hq51_2, (by decide)⟩) hP hD
              · skip
                refine lv_if_eq (tgt := 195) hx hb dX10_readLine_162 (by decide) (fun c57 => absurd c57 (by decide)) (fun _ => ?_)
                refine lv_aload_n hx hb dX10_readLine_165 rfl (lv_at hl 0 rfl) ?_
                refine va_get (D := g.1) (ci := 8) (v := .ref ta) (C := RX10) (T := TX10) (N := 2) hx hb hts izRX10 hown hK hP 0 rfl rfl 0 (by decide) (hts _ k441) (fun x9 h9 => u_same (hts _ k442) x9 h9) rfl dX10_readLine_166 ?_
                refine lv_iconst (v := 0) hx hb dX10_readLine_169 (by decide) ?_
                refine lv_bipush (v := 100) hx hb dX10_readLine_170 (by decide) ?_
                have hL0 : (0 : Int32).toInt = 0 := by decide
                have hL100 : (100 : Int32).toInt = 100 := by decide
                refine mcallV' (g := g) (q0 := 0) (ci := 6) (As := [.int 0, .int 100]) (rest := []) St hK hT hA hP hD hS hl.1 [2] [0, 1] rfl rfl rfl (c_t_number l g ta ab sz ln kd2_31 bg2_32 nx2_33 ft fb 0 100 hln hq35_0 hq35_1 hq35_2 hft) (cwV 2 hts (zgL (zl4 k445 k294 k295 k277) k273) rfl rfl rfl (by decide +kernel) ⟨Nat.le_of_ble_eq_true rfl, Nat.le_of_ble_eq_true rfl⟩) rfl rfl rfl rfl (Nat.le_of_ble_eq_true rfl) dX10_readLine_172 ⟨(Nat.le_of_ble_eq_true rfl), (Nat.le_of_ble_eq_true rfl)⟩ (fun u_ H locs hq63 hP hD hS => ?_)
                obtain ⟨kd2_58, bg2_59, nx2_60, ft2_61, q_62⟩ := u_
                replace hq63 : (0 ≤ nx2_60.toInt ∧ nx2_60.toInt ≤ 400) ∧ (0 ≤ bg2_59.toInt ∧ bg2_59.toInt ≤ 400) ∧ (zKd kd2_58.toInt bg2_59.toInt nx2_60.toInt) ∧ (-1 ≤ ft2_61.toInt) ∧ (zImp (¬ q_62.toInt = -1) ((0 : Int32).toInt ≤ q_62.toInt ∧ q_62.toInt ≤ (100 : Int32).toInt)) := hq63
                have hP : va_P g.1 vwCl (List.flatten [bTT g tt ta o, bTown g o a pe wo tx ch jo tr dy sd f, bTape g ta ab sz ln kd2_58 bg2_59 nx2_60 ft2_61 fb]) H := hP
                have hD : va_D A (List.flatten [bTT g tt ta o, bTown g o a pe wo tx ch jo tr dy sd f, bTape g ta ab sz ln kd2_58 bg2_59 nx2_60 ft2_61 fb]) := hD
                refine W.widen (k := 0) (n := 0) (Nat.le_of_ble_eq_true rfl) (Nat.le_of_ble_eq_true rfl) ?_
                refine W.eq (g2 := F0 m 175 ls [.int q_62]) rfl ?_
                obtain ⟨hq63_0, hq63_1, hq63_2, hq63_3, hq63_4⟩ := hq63
                refine lv_istore_n (lv' := [(1, .int q_62), (0, .ref tt)]) hx hb dX10_readLine_175 rfl hl (by decide) rfl (fun ls hl => ?_)
                refine lv_aload_n hx hb dX10_readLine_176 rfl (lv_at hl 1 rfl) ?_
                refine va_get (D := g.1) (ci := 8) (v := .ref o) (C := RX10) (T := TX10) (N := 2) hx hb hts izRX10 hown hK hP 0 rfl rfl 1 (by decide) (hts _ k439) (fun _ h9 => h9) rfl dX10_readLine_177 ?_
                refine lv_iload_n hx hb dX10_readLine_180 rfl (lv_at hl 0 rfl) ?_
                refine va_put (D := g.1) (ci := 7) (v := .int q_62) (ty := .int) (C := RX9) (T := TX9) (N := 19) hx hb hts izRX9 tyX9 tyX9_ok nmX9 hown hK hP hD hS 1 rfl rfl 5 (by decide) (hts _ k470) (fun _ h9 => h9) rfl (by decide +kernel) rfl rfl (Nat.le_of_ble_eq_true rfl) dX10_readLine_181 (fun H locs hP hD hS => ?_)
                have hP : va_P g.1 vwCl (List.flatten [bTT g tt ta o, bTown g o a pe wo tx ch jo q_62 dy sd f, bTape g ta ab sz ln kd2_58 bg2_59 nx2_60 ft2_61 fb]) H := hP
                have hD : va_D A (List.flatten [bTT g tt ta o, bTown g o a pe wo tx ch jo q_62 dy sd f, bTape g ta ab sz ln kd2_58 bg2_59 nx2_60 ft2_61 fb]) := hD
                refine lv_iload_n hx hb dX10_readLine_184 rfl (lv_at hl 0 rfl) ?_
                refine lv_iconst (v := (-1)) hx hb dX10_readLine_185 (by decide) ?_
                refine lv_icmp_eq (tgt := 193) hx hb dX10_readLine_186 (by decide) (fun cb9 => ?_) (fun cb9 => ?_)
                · skip
                  have c64 : q_62.toInt = (-1) := zeq cb9 rfl (by decide)
                  have n65 : q_62.toInt ≤ (-1) := Int.le_trans (Int.le_of_eq c64) (Int.le_refl _)
                  refine lv_iconst (v := 0) hx hb dX10_readLine_193 (by decide) ?_
                  have hP : va_P g.1 vwCl (List.flatten [bTT g tt ta o, bTown g o a pe wo tx ch jo q_62 dy sd f, bTape g ta ab sz ln kd2_58 bg2_59 nx2_60 ft2_61 fb]) H := hP
                  have hD : va_D A (List.flatten [bTT g tt ta o, bTown g o a pe wo tx ch jo q_62 dy sd f, bTape g ta ab sz ln kd2_58 bg2_59 nx2_60 ft2_61 fb]) := hD
                  obtain ⟨hP, hD⟩ := zord (g := g) (Bs' := [bTT g tt ta o, bTape g ta ab sz ln kd2_58 bg2_59 nx2_60 ft2_61 fb, bTown g o a pe wo tx ch jo q_62 dy sd f]) [0, 2, 1] rfl rfl hP hD
                  exact mret_z hx hb hr hlocks hS (Nat.le_of_ble_eq_true rfl) (Nat.le_of_ble_eq_true rfl) dX10_readLine_194 (kd2_58, bg2_59, nx2_60, ft2_61, pe, wo, ch, jo, q_62, dy, f, (0 : Int32)) rfl (by decide) (show (0 ≤ pe.toInt ∧ pe.toInt ≤ 8) ∧ (0 ≤ wo.toInt ∧ wo.toInt ≤ 6) ∧ (zZ4 f) ∧ (-1 ≤ ft2_61.toInt) ∧ (0 ≤ nx2_60.toInt ∧ nx2_60.toInt ≤ 400) ∧ (0 ≤ bg2_59.toInt ∧ bg2_59.toInt ≤ 400) ∧ (zKd kd2_58.toInt bg2_59.toInt nx2_60.toInt) ∧ (0 = 0 ∨ 0 = 1) from ⟨b_pe, b_wo, rf, hq63_3, hq63_0, hq63_1, hq63_2, (by decide)⟩) hP hD
                · skip
                  have c66 : ¬ q_62.toInt = (-1) := zne cb9 rfl (by decide)
                  have w67 := hq63_4 c66
                  have w68 : 0 ≤ q_62.toInt ∧ q_62.toInt ≤ 100 := by omega
                  refine lv_iconst (v := 1) hx hb dX10_readLine_189 (by decide) ?_
                  refine lv_goto (tgt := 194) hx hb dX10_readLine_190 (by decide) ?_
                  have hP : va_P g.1 vwCl (List.flatten [bTT g tt ta o, bTown g o a pe wo tx ch jo q_62 dy sd f, bTape g ta ab sz ln kd2_58 bg2_59 nx2_60 ft2_61 fb]) H := hP
                  have hD : va_D A (List.flatten [bTT g tt ta o, bTown g o a pe wo tx ch jo q_62 dy sd f, bTape g ta ab sz ln kd2_58 bg2_59 nx2_60 ft2_61 fb]) := hD
                  obtain ⟨hP, hD⟩ := zord (g := g) (Bs' := [bTT g tt ta o, bTape g ta ab sz ln kd2_58 bg2_59 nx2_60 ft2_61 fb, bTown g o a pe wo tx ch jo q_62 dy sd f]) [0, 2, 1] rfl rfl hP hD
                  exact mret_z hx hb hr hlocks hS (Nat.le_of_ble_eq_true rfl) (Nat.le_of_ble_eq_true rfl) dX10_readLine_194 (kd2_58, bg2_59, nx2_60, ft2_61, pe, wo, ch, jo, q_62, dy, f, (1 : Int32)) rfl (by decide) (show (0 ≤ pe.toInt ∧ pe.toInt ≤ 8) ∧ (0 ≤ wo.toInt ∧ wo.toInt ≤ 6) ∧ (zZ4 f) ∧ (-1 ≤ ft2_61.toInt) ∧ (0 ≤ nx2_60.toInt ∧ nx2_60.toInt ≤ 400) ∧ (0 ≤ bg2_59.toInt ∧ bg2_59.toInt ≤ 400) ∧ (zKd kd2_58.toInt bg2_59.toInt nx2_60.toInt) ∧ (1 = 0 ∨ 1 = 1) from ⟨b_pe, b_wo, rf, hq63_3, hq63_0, hq63_1, hq63_2, (by decide)⟩) hP hD
            · skip
              refine lv_if_eq (tgt := 153) hx hb dX10_readLine_120 (by decide) (fun c69 => absurd c69 (by decide)) (fun _ => ?_)
              refine lv_aload_n hx hb dX10_readLine_123 rfl (lv_at hl 0 rfl) ?_
              refine va_get (D := g.1) (ci := 8) (v := .ref ta) (C := RX10) (T := TX10) (N := 2) hx hb hts izRX10 hown hK hP 0 rfl rfl 0 (by decide) (hts _ k441) (fun x9 h9 => u_same (hts _ k442) x9 h9) rfl dX10_readLine_124 ?_
              refine lv_iconst (v := 1) hx hb dX10_readLine_127 (by decide) ?_
              refine lv_bipush (v := 30) hx hb dX10_readLine_128 (by decide) ?_
              have hL1 : (1 : Int32).toInt = 1 := by decide
              have hL30 : (30 : Int32).toInt = 30 := by decide
              refine mcallV' (g := g) (q0 := 0) (ci := 6) (As := [.int 1, .int 30]) (rest := []) St hK hT hA hP hD hS hl.1 [2] [0, 1] rfl rfl rfl (c_t_number l g ta ab sz ln kd2_25 bg2_26 nx2_27 ft fb 1 30 hln hq29_0 hq29_1 hq29_2 hft) (cwV 2 hts (zgL (zl4 k445 k294 k295 k277) k273) rfl rfl rfl (by decide +kernel) ⟨Nat.le_of_ble_eq_true rfl, Nat.le_of_ble_eq_true rfl⟩) rfl rfl rfl rfl (Nat.le_of_ble_eq_true rfl) dX10_readLine_130 ⟨(Nat.le_of_ble_eq_true rfl), (Nat.le_of_ble_eq_true rfl)⟩ (fun u_ H locs hq75 hP hD hS => ?_)
              obtain ⟨kd2_70, bg2_71, nx2_72, ft2_73, q_74⟩ := u_
              replace hq75 : (0 ≤ nx2_72.toInt ∧ nx2_72.toInt ≤ 400) ∧ (0 ≤ bg2_71.toInt ∧ bg2_71.toInt ≤ 400) ∧ (zKd kd2_70.toInt bg2_71.toInt nx2_72.toInt) ∧ (-1 ≤ ft2_73.toInt) ∧ (zImp (¬ q_74.toInt = -1) ((1 : Int32).toInt ≤ q_74.toInt ∧ q_74.toInt ≤ (30 : Int32).toInt)) := hq75
              have hP : va_P g.1 vwCl (List.flatten [bTT g tt ta o, bTown g o a pe wo tx ch jo tr dy sd f, bTape g ta ab sz ln kd2_70 bg2_71 nx2_72 ft2_73 fb]) H := hP
              have hD : va_D A (List.flatten [bTT g tt ta o, bTown g o a pe wo tx ch jo tr dy sd f, bTape g ta ab sz ln kd2_70 bg2_71 nx2_72 ft2_73 fb]) := hD
              refine W.widen (k := 0) (n := 0) (Nat.le_of_ble_eq_true rfl) (Nat.le_of_ble_eq_true rfl) ?_
              refine W.eq (g2 := F0 m 133 ls [.int q_74]) rfl ?_
              obtain ⟨hq75_0, hq75_1, hq75_2, hq75_3, hq75_4⟩ := hq75
              refine lv_istore_n (lv' := [(1, .int q_74), (0, .ref tt)]) hx hb dX10_readLine_133 rfl hl (by decide) rfl (fun ls hl => ?_)
              refine lv_aload_n hx hb dX10_readLine_134 rfl (lv_at hl 1 rfl) ?_
              refine va_get (D := g.1) (ci := 8) (v := .ref o) (C := RX10) (T := TX10) (N := 2) hx hb hts izRX10 hown hK hP 0 rfl rfl 1 (by decide) (hts _ k439) (fun _ h9 => h9) rfl dX10_readLine_135 ?_
              refine lv_iload_n hx hb dX10_readLine_138 rfl (lv_at hl 0 rfl) ?_
              refine va_put (D := g.1) (ci := 7) (v := .int q_74) (ty := .int) (C := RX9) (T := TX9) (N := 19) hx hb hts izRX9 tyX9 tyX9_ok nmX9 hown hK hP hD hS 1 rfl rfl 4 (by decide) (hts _ k469) (fun _ h9 => h9) rfl (by decide +kernel) rfl rfl (Nat.le_of_ble_eq_true rfl) dX10_readLine_139 (fun H locs hP hD hS => ?_)
              have hP : va_P g.1 vwCl (List.flatten [bTT g tt ta o, bTown g o a pe wo tx ch q_74 tr dy sd f, bTape g ta ab sz ln kd2_70 bg2_71 nx2_72 ft2_73 fb]) H := hP
              have hD : va_D A (List.flatten [bTT g tt ta o, bTown g o a pe wo tx ch q_74 tr dy sd f, bTape g ta ab sz ln kd2_70 bg2_71 nx2_72 ft2_73 fb]) := hD
              refine lv_iload_n hx hb dX10_readLine_142 rfl (lv_at hl 0 rfl) ?_
              refine lv_iconst (v := (-1)) hx hb dX10_readLine_143 (by decide) ?_
              refine lv_icmp_eq (tgt := 151) hx hb dX10_readLine_144 (by decide) (fun cb9 => ?_) (fun cb9 => ?_)
              · skip
                have c76 : q_74.toInt = (-1) := zeq cb9 rfl (by decide)
                have n77 : q_74.toInt ≤ (-1) := Int.le_trans (Int.le_of_eq c76) (Int.le_refl _)
                refine lv_iconst (v := 0) hx hb dX10_readLine_151 (by decide) ?_
                have hP : va_P g.1 vwCl (List.flatten [bTT g tt ta o, bTown g o a pe wo tx ch q_74 tr dy sd f, bTape g ta ab sz ln kd2_70 bg2_71 nx2_72 ft2_73 fb]) H := hP
                have hD : va_D A (List.flatten [bTT g tt ta o, bTown g o a pe wo tx ch q_74 tr dy sd f, bTape g ta ab sz ln kd2_70 bg2_71 nx2_72 ft2_73 fb]) := hD
                obtain ⟨hP, hD⟩ := zord (g := g) (Bs' := [bTT g tt ta o, bTape g ta ab sz ln kd2_70 bg2_71 nx2_72 ft2_73 fb, bTown g o a pe wo tx ch q_74 tr dy sd f]) [0, 2, 1] rfl rfl hP hD
                exact mret_z hx hb hr hlocks hS (Nat.le_of_ble_eq_true rfl) (Nat.le_of_ble_eq_true rfl) dX10_readLine_152 (kd2_70, bg2_71, nx2_72, ft2_73, pe, wo, ch, q_74, tr, dy, f, (0 : Int32)) rfl (by decide) (show (0 ≤ pe.toInt ∧ pe.toInt ≤ 8) ∧ (0 ≤ wo.toInt ∧ wo.toInt ≤ 6) ∧ (zZ4 f) ∧ (-1 ≤ ft2_73.toInt) ∧ (0 ≤ nx2_72.toInt ∧ nx2_72.toInt ≤ 400) ∧ (0 ≤ bg2_71.toInt ∧ bg2_71.toInt ≤ 400) ∧ (zKd kd2_70.toInt bg2_71.toInt nx2_72.toInt) ∧ (0 = 0 ∨ 0 = 1) from ⟨b_pe, b_wo, rf, hq75_3, hq75_0, hq75_1, hq75_2, (by decide)⟩) hP hD
              · skip
                have c78 : ¬ q_74.toInt = (-1) := zne cb9 rfl (by decide)
                have w79 := hq75_4 c78
                have w80 : 1 ≤ q_74.toInt ∧ q_74.toInt ≤ 30 := by omega
                refine lv_iconst (v := 1) hx hb dX10_readLine_147 (by decide) ?_
                refine lv_goto (tgt := 152) hx hb dX10_readLine_148 (by decide) ?_
                have hP : va_P g.1 vwCl (List.flatten [bTT g tt ta o, bTown g o a pe wo tx ch q_74 tr dy sd f, bTape g ta ab sz ln kd2_70 bg2_71 nx2_72 ft2_73 fb]) H := hP
                have hD : va_D A (List.flatten [bTT g tt ta o, bTown g o a pe wo tx ch q_74 tr dy sd f, bTape g ta ab sz ln kd2_70 bg2_71 nx2_72 ft2_73 fb]) := hD
                obtain ⟨hP, hD⟩ := zord (g := g) (Bs' := [bTT g tt ta o, bTape g ta ab sz ln kd2_70 bg2_71 nx2_72 ft2_73 fb, bTown g o a pe wo tx ch q_74 tr dy sd f]) [0, 2, 1] rfl rfl hP hD
                exact mret_z hx hb hr hlocks hS (Nat.le_of_ble_eq_true rfl) (Nat.le_of_ble_eq_true rfl) dX10_readLine_152 (kd2_70, bg2_71, nx2_72, ft2_73, pe, wo, ch, q_74, tr, dy, f, (1 : Int32)) rfl (by decide) (show (0 ≤ pe.toInt ∧ pe.toInt ≤ 8) ∧ (0 ≤ wo.toInt ∧ wo.toInt ≤ 6) ∧ (zZ4 f) ∧ (-1 ≤ ft2_73.toInt) ∧ (0 ≤ nx2_72.toInt ∧ nx2_72.toInt ≤ 400) ∧ (0 ≤ bg2_71.toInt ∧ bg2_71.toInt ≤ 400) ∧ (zKd kd2_70.toInt bg2_71.toInt nx2_72.toInt) ∧ (1 = 0 ∨ 1 = 1) from ⟨b_pe, b_wo, rf, hq75_3, hq75_0, hq75_1, hq75_2, (by decide)⟩) hP hD
          · skip
            refine lv_if_eq (tgt := 111) hx hb dX10_readLine_77 (by decide) (fun c81 => absurd c81 (by decide)) (fun _ => ?_)
            refine lv_aload_n hx hb dX10_readLine_80 rfl (lv_at hl 0 rfl) ?_
            refine va_get (D := g.1) (ci := 8) (v := .ref ta) (C := RX10) (T := TX10) (N := 2) hx hb hts izRX10 hown hK hP 0 rfl rfl 0 (by decide) (hts _ k441) (fun x9 h9 => u_same (hts _ k442) x9 h9) rfl dX10_readLine_81 ?_
            refine lv_iconst (v := 0) hx hb dX10_readLine_84 (by decide) ?_
            refine lv_sipush (v := 999) hx hb dX10_readLine_85 (by decide) ?_
            have hL0 : (0 : Int32).toInt = 0 := by decide
            have hL999 : (999 : Int32).toInt = 999 := by decide
            refine mcallV' (g := g) (q0 := 0) (ci := 6) (As := [.int 0, .int 999]) (rest := []) St hK hT hA hP hD hS hl.1 [2] [0, 1] rfl rfl rfl (c_t_number l g ta ab sz ln kd2_19 bg2_20 nx2_21 ft fb 0 999 hln hq23_0 hq23_1 hq23_2 hft) (cwV 2 hts (zgL (zl4 k445 k294 k295 k277) k273) rfl rfl rfl (by decide +kernel) ⟨Nat.le_of_ble_eq_true rfl, Nat.le_of_ble_eq_true rfl⟩) rfl rfl rfl rfl (Nat.le_of_ble_eq_true rfl) dX10_readLine_88 ⟨(Nat.le_of_ble_eq_true rfl), (Nat.le_of_ble_eq_true rfl)⟩ (fun u_ H locs hq87 hP hD hS => ?_)
            obtain ⟨kd2_82, bg2_83, nx2_84, ft2_85, q_86⟩ := u_
            replace hq87 : (0 ≤ nx2_84.toInt ∧ nx2_84.toInt ≤ 400) ∧ (0 ≤ bg2_83.toInt ∧ bg2_83.toInt ≤ 400) ∧ (zKd kd2_82.toInt bg2_83.toInt nx2_84.toInt) ∧ (-1 ≤ ft2_85.toInt) ∧ (zImp (¬ q_86.toInt = -1) ((0 : Int32).toInt ≤ q_86.toInt ∧ q_86.toInt ≤ (999 : Int32).toInt)) := hq87
            have hP : va_P g.1 vwCl (List.flatten [bTT g tt ta o, bTown g o a pe wo tx ch jo tr dy sd f, bTape g ta ab sz ln kd2_82 bg2_83 nx2_84 ft2_85 fb]) H := hP
            have hD : va_D A (List.flatten [bTT g tt ta o, bTown g o a pe wo tx ch jo tr dy sd f, bTape g ta ab sz ln kd2_82 bg2_83 nx2_84 ft2_85 fb]) := hD
            refine W.widen (k := 0) (n := 0) (Nat.le_of_ble_eq_true rfl) (Nat.le_of_ble_eq_true rfl) ?_
            refine W.eq (g2 := F0 m 91 ls [.int q_86]) rfl ?_
            obtain ⟨hq87_0, hq87_1, hq87_2, hq87_3, hq87_4⟩ := hq87
            refine lv_istore_n (lv' := [(1, .int q_86), (0, .ref tt)]) hx hb dX10_readLine_91 rfl hl (by decide) rfl (fun ls hl => ?_)
            refine lv_aload_n hx hb dX10_readLine_92 rfl (lv_at hl 1 rfl) ?_
            refine va_get (D := g.1) (ci := 8) (v := .ref o) (C := RX10) (T := TX10) (N := 2) hx hb hts izRX10 hown hK hP 0 rfl rfl 1 (by decide) (hts _ k439) (fun _ h9 => h9) rfl dX10_readLine_93 ?_
            refine lv_iload_n hx hb dX10_readLine_96 rfl (lv_at hl 0 rfl) ?_
            refine va_put (D := g.1) (ci := 7) (v := .int q_86) (ty := .int) (C := RX9) (T := TX9) (N := 19) hx hb hts izRX9 tyX9 tyX9_ok nmX9 hown hK hP hD hS 1 rfl rfl 3 (by decide) (hts _ k468) (fun _ h9 => h9) rfl (by decide +kernel) rfl rfl (Nat.le_of_ble_eq_true rfl) dX10_readLine_97 (fun H locs hP hD hS => ?_)
            have hP : va_P g.1 vwCl (List.flatten [bTT g tt ta o, bTown g o a pe wo tx q_86 jo tr dy sd f, bTape g ta ab sz ln kd2_82 bg2_83 nx2_84 ft2_85 fb]) H := hP
            have hD : va_D A (List.flatten [bTT g tt ta o, bTown g o a pe wo tx q_86 jo tr dy sd f, bTape g ta ab sz ln kd2_82 bg2_83 nx2_84 ft2_85 fb]) := hD
            refine lv_iload_n hx hb dX10_readLine_100 rfl (lv_at hl 0 rfl) ?_
            refine lv_iconst (v := (-1)) hx hb dX10_readLine_101 (by decide) ?_
            refine lv_icmp_eq (tgt := 109) hx hb dX10_readLine_102 (by decide) (fun cb9 => ?_) (fun cb9 => ?_)
            · skip
              have c88 : q_86.toInt = (-1) := zeq cb9 rfl (by decide)
              have n89 : q_86.toInt ≤ (-1) := Int.le_trans (Int.le_of_eq c88) (Int.le_refl _)
              refine lv_iconst (v := 0) hx hb dX10_readLine_109 (by decide) ?_
              have hP : va_P g.1 vwCl (List.flatten [bTT g tt ta o, bTown g o a pe wo tx q_86 jo tr dy sd f, bTape g ta ab sz ln kd2_82 bg2_83 nx2_84 ft2_85 fb]) H := hP
              have hD : va_D A (List.flatten [bTT g tt ta o, bTown g o a pe wo tx q_86 jo tr dy sd f, bTape g ta ab sz ln kd2_82 bg2_83 nx2_84 ft2_85 fb]) := hD
              obtain ⟨hP, hD⟩ := zord (g := g) (Bs' := [bTT g tt ta o, bTape g ta ab sz ln kd2_82 bg2_83 nx2_84 ft2_85 fb, bTown g o a pe wo tx q_86 jo tr dy sd f]) [0, 2, 1] rfl rfl hP hD
              exact mret_z hx hb hr hlocks hS (Nat.le_of_ble_eq_true rfl) (Nat.le_of_ble_eq_true rfl) dX10_readLine_110 (kd2_82, bg2_83, nx2_84, ft2_85, pe, wo, q_86, jo, tr, dy, f, (0 : Int32)) rfl (by decide) (show (0 ≤ pe.toInt ∧ pe.toInt ≤ 8) ∧ (0 ≤ wo.toInt ∧ wo.toInt ≤ 6) ∧ (zZ4 f) ∧ (-1 ≤ ft2_85.toInt) ∧ (0 ≤ nx2_84.toInt ∧ nx2_84.toInt ≤ 400) ∧ (0 ≤ bg2_83.toInt ∧ bg2_83.toInt ≤ 400) ∧ (zKd kd2_82.toInt bg2_83.toInt nx2_84.toInt) ∧ (0 = 0 ∨ 0 = 1) from ⟨b_pe, b_wo, rf, hq87_3, hq87_0, hq87_1, hq87_2, (by decide)⟩) hP hD
            · skip
              have c90 : ¬ q_86.toInt = (-1) := zne cb9 rfl (by decide)
              have w91 := hq87_4 c90
              have w92 : 0 ≤ q_86.toInt ∧ q_86.toInt ≤ 999 := by omega
              refine lv_iconst (v := 1) hx hb dX10_readLine_105 (by decide) ?_
              refine lv_goto (tgt := 110) hx hb dX10_readLine_106 (by decide) ?_
              have hP : va_P g.1 vwCl (List.flatten [bTT g tt ta o, bTown g o a pe wo tx q_86 jo tr dy sd f, bTape g ta ab sz ln kd2_82 bg2_83 nx2_84 ft2_85 fb]) H := hP
              have hD : va_D A (List.flatten [bTT g tt ta o, bTown g o a pe wo tx q_86 jo tr dy sd f, bTape g ta ab sz ln kd2_82 bg2_83 nx2_84 ft2_85 fb]) := hD
              obtain ⟨hP, hD⟩ := zord (g := g) (Bs' := [bTT g tt ta o, bTape g ta ab sz ln kd2_82 bg2_83 nx2_84 ft2_85 fb, bTown g o a pe wo tx q_86 jo tr dy sd f]) [0, 2, 1] rfl rfl hP hD
              exact mret_z hx hb hr hlocks hS (Nat.le_of_ble_eq_true rfl) (Nat.le_of_ble_eq_true rfl) dX10_readLine_110 (kd2_82, bg2_83, nx2_84, ft2_85, pe, wo, q_86, jo, tr, dy, f, (1 : Int32)) rfl (by decide) (show (0 ≤ pe.toInt ∧ pe.toInt ≤ 8) ∧ (0 ≤ wo.toInt ∧ wo.toInt ≤ 6) ∧ (zZ4 f) ∧ (-1 ≤ ft2_85.toInt) ∧ (0 ≤ nx2_84.toInt ∧ nx2_84.toInt ≤ 400) ∧ (0 ≤ bg2_83.toInt ∧ bg2_83.toInt ≤ 400) ∧ (zKd kd2_82.toInt bg2_83.toInt nx2_84.toInt) ∧ (1 = 0 ∨ 1 = 1) from ⟨b_pe, b_wo, rf, hq87_3, hq87_0, hq87_1, hq87_2, (by decide)⟩) hP hD
        · skip
          refine lv_if_eq (tgt := 68) hx hb dX10_readLine_60 (by decide) (fun c93 => absurd c93 (by decide)) (fun _ => ?_)
          refine lv_aload_n hx hb dX10_readLine_63 rfl (lv_at hl 0 rfl) ?_
          refine mcallV' (g := g) (q0 := 0) (ci := 8) (As := []) (rest := []) St hK hT hA hP hD hS hl.1 [0, 2, 1] [] rfl rfl rfl (c_tt_readShares l g tt ta o ab sz ln kd2_13 bg2_14 nx2_15 ft fb a pe wo tx ch jo tr dy sd f b_pe b_wo rf hln hq17_0 hq17_1 hq17_2 hft) (cwV 0 hts (zgL (zl4 k483 k484 k485 k476) k466) rfl rfl rfl (by decide +kernel) ⟨Nat.le_of_ble_eq_true rfl, Nat.le_of_ble_eq_true rfl⟩) rfl rfl rfl rfl (Nat.le_of_ble_eq_true rfl) dX10_readLine_64 ⟨(Nat.le_of_ble_eq_true rfl), (Nat.le_of_ble_eq_true rfl)⟩ (fun u_ H locs hq100 hP hD hS => ?_)
          obtain ⟨kd2_94, bg2_95, nx2_96, ft2_97, f2_98, q_99⟩ := u_
          replace hq100 : (zZ4 f2_98) ∧ (-1 ≤ ft2_97.toInt) ∧ (0 ≤ nx2_96.toInt ∧ nx2_96.toInt ≤ 400) ∧ (0 ≤ bg2_95.toInt ∧ bg2_95.toInt ≤ 400) ∧ (zKd kd2_94.toInt bg2_95.toInt nx2_96.toInt) ∧ (q_99 = 0 ∨ q_99 = 1) := hq100
          have hP : va_P g.1 vwCl (List.flatten [bTT g tt ta o, bTape g ta ab sz ln kd2_94 bg2_95 nx2_96 ft2_97 fb, bTown g o a pe wo tx ch jo tr dy sd f2_98]) H := hP
          have hD : va_D A (List.flatten [bTT g tt ta o, bTape g ta ab sz ln kd2_94 bg2_95 nx2_96 ft2_97 fb, bTown g o a pe wo tx ch jo tr dy sd f2_98]) := hD
          refine W.widen (k := 0) (n := 0) (Nat.le_of_ble_eq_true rfl) (Nat.le_of_ble_eq_true rfl) ?_
          refine W.eq (g2 := F0 m 67 ls [.int q_99]) rfl ?_
          obtain ⟨rf2_98, hq100_1, hq100_2, hq100_3, hq100_4, hq100_5⟩ := hq100
          rcases hq100_5 with rfl | rfl
          · skip
            have hP : va_P g.1 vwCl (List.flatten [bTT g tt ta o, bTape g ta ab sz ln kd2_94 bg2_95 nx2_96 ft2_97 fb, bTown g o a pe wo tx ch jo tr dy sd f2_98]) H := hP
            have hD : va_D A (List.flatten [bTT g tt ta o, bTape g ta ab sz ln kd2_94 bg2_95 nx2_96 ft2_97 fb, bTown g o a pe wo tx ch jo tr dy sd f2_98]) := hD
            exact mret_z hx hb hr hlocks hS (Nat.le_of_ble_eq_true rfl) (Nat.le_of_ble_eq_true rfl) dX10_readLine_67 (kd2_94, bg2_95, nx2_96, ft2_97, pe, wo, ch, jo, tr, dy, f2_98, (0 : Int32)) rfl (by decide) (show (0 ≤ pe.toInt ∧ pe.toInt ≤ 8) ∧ (0 ≤ wo.toInt ∧ wo.toInt ≤ 6) ∧ (zZ4 f2_98) ∧ (-1 ≤ ft2_97.toInt) ∧ (0 ≤ nx2_96.toInt ∧ nx2_96.toInt ≤ 400) ∧ (0 ≤ bg2_95.toInt ∧ bg2_95.toInt ≤ 400) ∧ (zKd kd2_94.toInt bg2_95.toInt nx2_96.toInt) ∧ (0 = 0 ∨ 0 = 1) from ⟨b_pe, b_wo, rf2_98, hq100_1, hq100_2, hq100_3, hq100_4, (by decide)⟩) hP hD
          · skip
            have hP : va_P g.1 vwCl (List.flatten [bTT g tt ta o, bTape g ta ab sz ln kd2_94 bg2_95 nx2_96 ft2_97 fb, bTown g o a pe wo tx ch jo tr dy sd f2_98]) H := hP
            have hD : va_D A (List.flatten [bTT g tt ta o, bTape g ta ab sz ln kd2_94 bg2_95 nx2_96 ft2_97 fb, bTown g o a pe wo tx ch jo tr dy sd f2_98]) := hD
            exact mret_z hx hb hr hlocks hS (Nat.le_of_ble_eq_true rfl) (Nat.le_of_ble_eq_true rfl) dX10_readLine_67 (kd2_94, bg2_95, nx2_96, ft2_97, pe, wo, ch, jo, tr, dy, f2_98, (1 : Int32)) rfl (by decide) (show (0 ≤ pe.toInt ∧ pe.toInt ≤ 8) ∧ (0 ≤ wo.toInt ∧ wo.toInt ≤ 6) ∧ (zZ4 f2_98) ∧ (-1 ≤ ft2_97.toInt) ∧ (0 ≤ nx2_96.toInt ∧ nx2_96.toInt ≤ 400) ∧ (0 ≤ bg2_95.toInt ∧ bg2_95.toInt ≤ 400) ∧ (zKd kd2_94.toInt bg2_95.toInt nx2_96.toInt) ∧ (1 = 0 ∨ 1 = 1) from ⟨b_pe, b_wo, rf2_98, hq100_1, hq100_2, hq100_3, hq100_4, (by decide)⟩) hP hD
      · skip
        refine lv_if_eq (tgt := 51) hx hb dX10_readLine_43 (by decide) (fun c101 => absurd c101 (by decide)) (fun _ => ?_)
        refine lv_aload_n hx hb dX10_readLine_46 rfl (lv_at hl 0 rfl) ?_
        refine mcallV' (g := g) (q0 := 0) (ci := 8) (As := []) (rest := []) St hK hT hA hP hD hS hl.1 [0, 2, 1] [] rfl rfl rfl (c_tt_readTrusts l g tt ta o ab sz ln kd2_7 bg2_8 nx2_9 ft fb a pe wo tx ch jo tr dy sd f b_pe b_wo rf hln hq11_0 hq11_1 hq11_2 hft) (cwV 0 hts (zgL (zl4 k480 k481 k482 k476) k465) rfl rfl rfl (by decide +kernel) ⟨Nat.le_of_ble_eq_true rfl, Nat.le_of_ble_eq_true rfl⟩) rfl rfl rfl rfl (Nat.le_of_ble_eq_true rfl) dX10_readLine_47 ⟨(Nat.le_of_ble_eq_true rfl), (Nat.le_of_ble_eq_true rfl)⟩ (fun u_ H locs hq108 hP hD hS => ?_)
        obtain ⟨kd2_102, bg2_103, nx2_104, ft2_105, f2_106, q_107⟩ := u_
        replace hq108 : (zZ4 f2_106) ∧ (-1 ≤ ft2_105.toInt) ∧ (0 ≤ nx2_104.toInt ∧ nx2_104.toInt ≤ 400) ∧ (0 ≤ bg2_103.toInt ∧ bg2_103.toInt ≤ 400) ∧ (zKd kd2_102.toInt bg2_103.toInt nx2_104.toInt) ∧ (q_107 = 0 ∨ q_107 = 1) := hq108
        have hP : va_P g.1 vwCl (List.flatten [bTT g tt ta o, bTape g ta ab sz ln kd2_102 bg2_103 nx2_104 ft2_105 fb, bTown g o a pe wo tx ch jo tr dy sd f2_106]) H := hP
        have hD : va_D A (List.flatten [bTT g tt ta o, bTape g ta ab sz ln kd2_102 bg2_103 nx2_104 ft2_105 fb, bTown g o a pe wo tx ch jo tr dy sd f2_106]) := hD
        refine W.widen (k := 0) (n := 0) (Nat.le_of_ble_eq_true rfl) (Nat.le_of_ble_eq_true rfl) ?_
        refine W.eq (g2 := F0 m 50 ls [.int q_107]) rfl ?_
        obtain ⟨rf2_106, hq108_1, hq108_2, hq108_3, hq108_4, hq108_5⟩ := hq108
        rcases hq108_5 with rfl | rfl
        · skip
          have hP : va_P g.1 vwCl (List.flatten [bTT g tt ta o, bTape g ta ab sz ln kd2_102 bg2_103 nx2_104 ft2_105 fb, bTown g o a pe wo tx ch jo tr dy sd f2_106]) H := hP
          have hD : va_D A (List.flatten [bTT g tt ta o, bTape g ta ab sz ln kd2_102 bg2_103 nx2_104 ft2_105 fb, bTown g o a pe wo tx ch jo tr dy sd f2_106]) := hD
          exact mret_z hx hb hr hlocks hS (Nat.le_of_ble_eq_true rfl) (Nat.le_of_ble_eq_true rfl) dX10_readLine_50 (kd2_102, bg2_103, nx2_104, ft2_105, pe, wo, ch, jo, tr, dy, f2_106, (0 : Int32)) rfl (by decide) (show (0 ≤ pe.toInt ∧ pe.toInt ≤ 8) ∧ (0 ≤ wo.toInt ∧ wo.toInt ≤ 6) ∧ (zZ4 f2_106) ∧ (-1 ≤ ft2_105.toInt) ∧ (0 ≤ nx2_104.toInt ∧ nx2_104.toInt ≤ 400) ∧ (0 ≤ bg2_103.toInt ∧ bg2_103.toInt ≤ 400) ∧ (zKd kd2_102.toInt bg2_103.toInt nx2_104.toInt) ∧ (0 = 0 ∨ 0 = 1) from ⟨b_pe, b_wo, rf2_106, hq108_1, hq108_2, hq108_3, hq108_4, (by decide)⟩) hP hD
        · skip
          have hP : va_P g.1 vwCl (List.flatten [bTT g tt ta o, bTape g ta ab sz ln kd2_102 bg2_103 nx2_104 ft2_105 fb, bTown g o a pe wo tx ch jo tr dy sd f2_106]) H := hP
          have hD : va_D A (List.flatten [bTT g tt ta o, bTape g ta ab sz ln kd2_102 bg2_103 nx2_104 ft2_105 fb, bTown g o a pe wo tx ch jo tr dy sd f2_106]) := hD
          exact mret_z hx hb hr hlocks hS (Nat.le_of_ble_eq_true rfl) (Nat.le_of_ble_eq_true rfl) dX10_readLine_50 (kd2_102, bg2_103, nx2_104, ft2_105, pe, wo, ch, jo, tr, dy, f2_106, (1 : Int32)) rfl (by decide) (show (0 ≤ pe.toInt ∧ pe.toInt ≤ 8) ∧ (0 ≤ wo.toInt ∧ wo.toInt ≤ 6) ∧ (zZ4 f2_106) ∧ (-1 ≤ ft2_105.toInt) ∧ (0 ≤ nx2_104.toInt ∧ nx2_104.toInt ≤ 400) ∧ (0 ≤ bg2_103.toInt ∧ bg2_103.toInt ≤ 400) ∧ (zKd kd2_102.toInt bg2_103.toInt nx2_104.toInt) ∧ (1 = 0 ∨ 1 = 1) from ⟨b_pe, b_wo, rf2_106, hq108_1, hq108_2, hq108_3, hq108_4, (by decide)⟩) hP hD
    · skip
      refine lv_if_eq (tgt := 34) hx hb dX10_readLine_26 (by decide) (fun c109 => absurd c109 (by decide)) (fun _ => ?_)
      refine lv_aload_n hx hb dX10_readLine_29 rfl (lv_at hl 0 rfl) ?_
      refine mcallV' (g := g) (q0 := 0) (ci := 8) (As := []) (rest := []) St hK hT hA hP hD hS hl.1 [0, 2, 1] [] rfl rfl rfl (c_tt_readWork l g tt ta o ab sz ln kd bg nx ft fb a pe wo tx ch jo tr dy sd f b_pe b_wo rf hln hnx hbg hkd hft) (cwV 0 hts (zgL (zl4 k477 k478 k479 k476) k459) rfl rfl rfl (by decide +kernel) ⟨Nat.le_of_ble_eq_true rfl, Nat.le_of_ble_eq_true rfl⟩) rfl rfl rfl rfl (Nat.le_of_ble_eq_true rfl) dX10_readLine_30 ⟨(Nat.le_of_ble_eq_true rfl), (Nat.le_of_ble_eq_true rfl)⟩ (fun u_ H locs hq117 hP hD hS => ?_)
      obtain ⟨kd2_110, bg2_111, nx2_112, ft2_113, wo2_114, f2_115, q_116⟩ := u_
      replace hq117 : (0 ≤ wo2_114.toInt ∧ wo2_114.toInt ≤ 6) ∧ (zZ4 f2_115) ∧ (-1 ≤ ft2_113.toInt) ∧ (0 ≤ nx2_112.toInt ∧ nx2_112.toInt ≤ 400) ∧ (0 ≤ bg2_111.toInt ∧ bg2_111.toInt ≤ 400) ∧ (zKd kd2_110.toInt bg2_111.toInt nx2_112.toInt) ∧ (q_116 = 0 ∨ q_116 = 1) := hq117
      have hP : va_P g.1 vwCl (List.flatten [bTT g tt ta o, bTape g ta ab sz ln kd2_110 bg2_111 nx2_112 ft2_113 fb, bTown g o a pe wo2_114 tx ch jo tr dy sd f2_115]) H := hP
      have hD : va_D A (List.flatten [bTT g tt ta o, bTape g ta ab sz ln kd2_110 bg2_111 nx2_112 ft2_113 fb, bTown g o a pe wo2_114 tx ch jo tr dy sd f2_115]) := hD
      refine W.widen (k := 0) (n := 0) (Nat.le_of_ble_eq_true rfl) (Nat.le_of_ble_eq_true rfl) ?_
      refine W.eq (g2 := F0 m 33 ls [.int q_116]) rfl ?_
      obtain ⟨hq117_0, rf2_115, hq117_2, hq117_3, hq117_4, hq117_5, hq117_6⟩ := hq117
      rcases hq117_6 with rfl | rfl
      · skip
        have hP : va_P g.1 vwCl (List.flatten [bTT g tt ta o, bTape g ta ab sz ln kd2_110 bg2_111 nx2_112 ft2_113 fb, bTown g o a pe wo2_114 tx ch jo tr dy sd f2_115]) H := hP
        have hD : va_D A (List.flatten [bTT g tt ta o, bTape g ta ab sz ln kd2_110 bg2_111 nx2_112 ft2_113 fb, bTown g o a pe wo2_114 tx ch jo tr dy sd f2_115]) := hD
        exact mret_z hx hb hr hlocks hS (Nat.le_of_ble_eq_true rfl) (Nat.le_of_ble_eq_true rfl) dX10_readLine_33 (kd2_110, bg2_111, nx2_112, ft2_113, pe, wo2_114, ch, jo, tr, dy, f2_115, (0 : Int32)) rfl (by decide) (show (0 ≤ pe.toInt ∧ pe.toInt ≤ 8) ∧ (0 ≤ wo2_114.toInt ∧ wo2_114.toInt ≤ 6) ∧ (zZ4 f2_115) ∧ (-1 ≤ ft2_113.toInt) ∧ (0 ≤ nx2_112.toInt ∧ nx2_112.toInt ≤ 400) ∧ (0 ≤ bg2_111.toInt ∧ bg2_111.toInt ≤ 400) ∧ (zKd kd2_110.toInt bg2_111.toInt nx2_112.toInt) ∧ (0 = 0 ∨ 0 = 1) from ⟨b_pe, hq117_0, rf2_115, hq117_2, hq117_3, hq117_4, hq117_5, (by decide)⟩) hP hD
      · skip
        have hP : va_P g.1 vwCl (List.flatten [bTT g tt ta o, bTape g ta ab sz ln kd2_110 bg2_111 nx2_112 ft2_113 fb, bTown g o a pe wo2_114 tx ch jo tr dy sd f2_115]) H := hP
        have hD : va_D A (List.flatten [bTT g tt ta o, bTape g ta ab sz ln kd2_110 bg2_111 nx2_112 ft2_113 fb, bTown g o a pe wo2_114 tx ch jo tr dy sd f2_115]) := hD
        exact mret_z hx hb hr hlocks hS (Nat.le_of_ble_eq_true rfl) (Nat.le_of_ble_eq_true rfl) dX10_readLine_33 (kd2_110, bg2_111, nx2_112, ft2_113, pe, wo2_114, ch, jo, tr, dy, f2_115, (1 : Int32)) rfl (by decide) (show (0 ≤ pe.toInt ∧ pe.toInt ≤ 8) ∧ (0 ≤ wo2_114.toInt ∧ wo2_114.toInt ≤ 6) ∧ (zZ4 f2_115) ∧ (-1 ≤ ft2_113.toInt) ∧ (0 ≤ nx2_112.toInt ∧ nx2_112.toInt ≤ 400) ∧ (0 ≤ bg2_111.toInt ∧ bg2_111.toInt ≤ 400) ∧ (zKd kd2_110.toInt bg2_111.toInt nx2_112.toInt) ∧ (1 = 0 ∨ 1 = 1) from ⟨b_pe, hq117_0, rf2_115, hq117_2, hq117_3, hq117_4, hq117_5, (by decide)⟩) hP hD
  · skip
    refine lv_if_eq (tgt := 17) hx hb dX10_readLine_9 (by decide) (fun c118 => absurd c118 (by decide)) (fun _ => ?_)
    refine lv_aload_n hx hb dX10_readLine_12 rfl (lv_at hl 0 rfl) ?_
    refine mcallV' (g := g) (q0 := 0) (ci := 8) (As := []) (rest := []) St hK hT hA hP hD hS hl.1 [0, 2, 1] [] rfl rfl rfl (c_tt_readPerson l g tt ta o ab sz ln kd bg nx ft fb a pe wo tx ch jo tr dy sd f b_pe b_wo rf hln hnx hbg hkd hft) (cwV 0 hts (zgL (zl4 k473 k474 k475 k476) k453) rfl rfl rfl (by decide +kernel) ⟨Nat.le_of_ble_eq_true rfl, Nat.le_of_ble_eq_true rfl⟩) rfl rfl rfl rfl (Nat.le_of_ble_eq_true rfl) dX10_readLine_13 ⟨(Nat.le_of_ble_eq_true rfl), (Nat.le_of_ble_eq_true rfl)⟩ (fun u_ H locs hq126 hP hD hS => ?_)
    obtain ⟨kd2_119, bg2_120, nx2_121, ft2_122, pe2_123, f2_124, q_125⟩ := u_
    replace hq126 : (0 ≤ pe2_123.toInt ∧ pe2_123.toInt ≤ 8) ∧ (zZ4 f2_124) ∧ (-1 ≤ ft2_122.toInt) ∧ (0 ≤ nx2_121.toInt ∧ nx2_121.toInt ≤ 400) ∧ (0 ≤ bg2_120.toInt ∧ bg2_120.toInt ≤ 400) ∧ (zKd kd2_119.toInt bg2_120.toInt nx2_121.toInt) ∧ (q_125 = 0 ∨ q_125 = 1) := hq126
    have hP : va_P g.1 vwCl (List.flatten [bTT g tt ta o, bTape g ta ab sz ln kd2_119 bg2_120 nx2_121 ft2_122 fb, bTown g o a pe2_123 wo tx ch jo tr dy sd f2_124]) H := hP
    have hD : va_D A (List.flatten [bTT g tt ta o, bTape g ta ab sz ln kd2_119 bg2_120 nx2_121 ft2_122 fb, bTown g o a pe2_123 wo tx ch jo tr dy sd f2_124]) := hD
    refine W.widen (k := 0) (n := 0) (Nat.le_of_ble_eq_true rfl) (Nat.le_of_ble_eq_true rfl) ?_
    refine W.eq (g2 := F0 m 16 ls [.int q_125]) rfl ?_
    obtain ⟨hq126_0, rf2_124, hq126_2, hq126_3, hq126_4, hq126_5, hq126_6⟩ := hq126
    rcases hq126_6 with rfl | rfl
    · skip
      have hP : va_P g.1 vwCl (List.flatten [bTT g tt ta o, bTape g ta ab sz ln kd2_119 bg2_120 nx2_121 ft2_122 fb, bTown g o a pe2_123 wo tx ch jo tr dy sd f2_124]) H := hP
      have hD : va_D A (List.flatten [bTT g tt ta o, bTape g ta ab sz ln kd2_119 bg2_120 nx2_121 ft2_122 fb, bTown g o a pe2_123 wo tx ch jo tr dy sd f2_124]) := hD
      exact mret_z hx hb hr hlocks hS (Nat.le_of_ble_eq_true rfl) (Nat.le_of_ble_eq_true rfl) dX10_readLine_16 (kd2_119, bg2_120, nx2_121, ft2_122, pe2_123, wo, ch, jo, tr, dy, f2_124, (0 : Int32)) rfl (by decide) (show (0 ≤ pe2_123.toInt ∧ pe2_123.toInt ≤ 8) ∧ (0 ≤ wo.toInt ∧ wo.toInt ≤ 6) ∧ (zZ4 f2_124) ∧ (-1 ≤ ft2_122.toInt) ∧ (0 ≤ nx2_121.toInt ∧ nx2_121.toInt ≤ 400) ∧ (0 ≤ bg2_120.toInt ∧ bg2_120.toInt ≤ 400) ∧ (zKd kd2_119.toInt bg2_120.toInt nx2_121.toInt) ∧ (0 = 0 ∨ 0 = 1) from ⟨hq126_0, b_wo, rf2_124, hq126_2, hq126_3, hq126_4, hq126_5, (by decide)⟩) hP hD
    · skip
      have hP : va_P g.1 vwCl (List.flatten [bTT g tt ta o, bTape g ta ab sz ln kd2_119 bg2_120 nx2_121 ft2_122 fb, bTown g o a pe2_123 wo tx ch jo tr dy sd f2_124]) H := hP
      have hD : va_D A (List.flatten [bTT g tt ta o, bTape g ta ab sz ln kd2_119 bg2_120 nx2_121 ft2_122 fb, bTown g o a pe2_123 wo tx ch jo tr dy sd f2_124]) := hD
      exact mret_z hx hb hr hlocks hS (Nat.le_of_ble_eq_true rfl) (Nat.le_of_ble_eq_true rfl) dX10_readLine_16 (kd2_119, bg2_120, nx2_121, ft2_122, pe2_123, wo, ch, jo, tr, dy, f2_124, (1 : Int32)) rfl (by decide) (show (0 ≤ pe2_123.toInt ∧ pe2_123.toInt ≤ 8) ∧ (0 ≤ wo.toInt ∧ wo.toInt ≤ 6) ∧ (zZ4 f2_124) ∧ (-1 ≤ ft2_122.toInt) ∧ (0 ≤ nx2_121.toInt ∧ nx2_121.toInt ≤ 400) ∧ (0 ≤ bg2_120.toInt ∧ bg2_120.toInt ≤ 400) ∧ (zKd kd2_119.toInt bg2_120.toInt nx2_121.toInt) ∧ (1 = 0 ∨ 1 = 1) from ⟨hq126_0, b_wo, rf2_124, hq126_2, hq126_3, hq126_4, hq126_5, (by decide)⟩) hP hD
