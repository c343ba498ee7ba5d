set_option maxRecDepth 100000 in
set_option maxHeartbeats 4000000 in
theorem c_tt_readTrusts (l : Launch) (g : zG) (tt : Nat) (ta : Nat) (o : Nat) (ab : Nat) (sz : Int32) (ln : Int32) (kd : Int32) (bg : Int32) (nx : Int32) (ft : Int32) (fb : Nat → Int32) (a : Nat → Nat) (pe : Int32) (wo : Int32) (tx : Int32) (ch : Int32) (jo : Int32) (tr : Int32) (dy : Int32) (sd : Int32) (f : Nat → Nat → Int32) (b_pe : 0 ≤ pe.toInt ∧ pe.toInt ≤ 8) (b_wo : 0 ≤ wo.toInt ∧ wo.toInt ≤ 6) (rf : zZ4 f) (hln : 0 ≤ ln.toInt ∧ ln.toInt ≤ 400) (hnx : 0 ≤ nx.toInt ∧ nx.toInt ≤ 400) (hbg : 0 ≤ bg.toInt ∧ bg.toInt ≤ 400) (hkd : zKd kd.toInt bg.toInt nx.toInt) (hft : -1 ≤ ft.toInt) : zM' g l yX10_readTrusts (Cond.code yX10_readTrusts cX10_readTrusts 3 (some .boolean) :: zB) ({ frames := 2, cells := 0, slots := 0, locals := 45 } : Room) [.ref tt] [bTT g tt ta o, bTape g ta ab sz ln kd bg nx ft fb, bTown g o a pe wo tx ch jo tr dy sd f] (fun u : Int32 × Int32 × Int32 × Int32 × (Nat → Nat → Int32) × Int32 => (fun (kd2 : Int32) (bg2 : Int32) (nx2 : Int32) (ft2 : Int32) (f2 : Nat → Nat → Int32) (q : Int32) => some (.int q)) (u.1) (u.2.1) (u.2.2.1) (u.2.2.2.1) (u.2.2.2.2.1) (u.2.2.2.2.2)) (fun u : Int32 × Int32 × Int32 × Int32 × (Nat → Nat → Int32) × Int32 => (fun (kd2 : Int32) (bg2 : Int32) (nx2 : Int32) (ft2 : Int32) (f2 : Nat → Nat → Int32) (q : Int32) => (zZ4 f2) ∧ (-1 ≤ ft2.toInt) ∧ (0 ≤ nx2.toInt ∧ nx2.toInt ≤ 400) ∧ (0 ≤ bg2.toInt ∧ bg2.toInt ≤ 400) ∧ (zKd kd2.toInt bg2.toInt nx2.toInt) ∧ (q = 0 ∨ q = 1)) (u.1) (u.2.1) (u.2.2.1) (u.2.2.2.1) (u.2.2.2.2.1) (u.2.2.2.2.2)) (fun u : Int32 × Int32 × Int32 × Int32 × (Nat → Nat → Int32) × Int32 => (fun (kd2 : Int32) (bg2 : Int32) (nx2 : Int32) (ft2 : Int32) (f2 : Nat → Nat → Int32) (q : Int32) => [bTT g tt ta o, bTape g ta ab sz ln kd2 bg2 nx2 ft2 fb, bTown g o a pe wo tx ch jo tr dy sd f2]) (u.1) (u.2.1) (u.2.2.1) (u.2.2.2.1) (u.2.2.2.2.1) (u.2.2.2.2.2)) := by
  refine zM'.of (cc := cX10_readTrusts) (maxL := 3) (rt := (some .boolean)) (by decide) rfl (Nat.le_of_ble_eq_true rfl) ?_
  intro p e s m args below meth c A ls St hr hlocks hin hK hT hA hP hD hS hl
  obtain ⟨hx, hb, hml, hown, hts⟩ := id St
  have hl : lv_has ls 3 [(0, .ref tt)] := hl
  refine lv_aload_n hx hb dX10_readTrusts_0 rfl (lv_at hl 0 rfl) ?_
  refine va_get (D := g.1) (ci := 8) (v := .ref ta) (C := RX10) (T := TX10) (N := 2) hx hb hts izRX10 hown hK hP 0 rfl rfl 0 (by decide) (hts _ k441) (fun x9 h9 => u_same (hts _ k442) x9 h9) rfl dX10_readTrusts_1 ?_
  refine lv_iconst (v := 0) hx hb dX10_readTrusts_4 (by decide) ?_
  refine lv_aload_n hx hb dX10_readTrusts_5 rfl (lv_at hl 0 rfl) ?_
  refine va_get (D := g.1) (ci := 8) (v := .ref o) (C := RX10) (T := TX10) (N := 2) hx hb hts izRX10 hown hK hP 0 rfl rfl 1 (by decide) (hts _ k439) (fun _ h9 => h9) rfl dX10_readTrusts_6 ?_
  refine va_get (D := g.1) (ci := 7) (v := .int pe) (C := RX9) (T := TX9) (N := 19) hx hb hts izRX9 hown hK hP 3 rfl rfl 0 (by decide) (hts _ k440) (fun _ h9 => h9) rfl dX10_readTrusts_9 ?_
  refine lv_iconst (v := 1) hx hb dX10_readTrusts_12 (by decide) ?_
  refine lv_isub hx hb dX10_readTrusts_13 ?_
  refine zg3 (zsubK (i := pe.toInt) (j := 1) (a' := (-1)) (b' := 7) rfl (by decide) b_pe.1 b_pe.2 (Int.le_refl _) (Int.le_refl _) (by decide)) (fun x_1 hx_1 => ?_)
  have hL0 : (0 : Int32).toInt = 0 := by decide
  refine mcallV' (g := g) (q0 := 0) (ci := 6) (As := [.int 0, .int x_1]) (rest := []) St hK hT hA hP hD hS hl.1 [1] [0, 2] rfl rfl rfl (c_t_number l g ta ab sz ln kd bg nx ft fb 0 x_1 hln hnx hbg hkd hft) (cwV 2 hts (zgL (zl4 k445 k294 k295 k277) k273) rfl rfl rfl (by decide +kernel) ⟨Nat.le_of_ble_eq_true rfl, Nat.le_of_ble_eq_true rfl⟩) rfl rfl rfl rfl (Nat.le_of_ble_eq_true rfl) dX10_readTrusts_14 ⟨(Nat.le_of_ble_eq_true rfl), (Nat.le_of_ble_eq_true rfl)⟩ (fun u_ H locs hq7 hP hD hS => ?_)
  obtain ⟨kd2_2, bg2_3, nx2_4, ft2_5, q_6⟩ := u_
  replace hq7 : (0 ≤ nx2_4.toInt ∧ nx2_4.toInt ≤ 400) ∧ (0 ≤ bg2_3.toInt ∧ bg2_3.toInt ≤ 400) ∧ (zKd kd2_2.toInt bg2_3.toInt nx2_4.toInt) ∧ (-1 ≤ ft2_5.toInt) ∧ (zImp (¬ q_6.toInt = -1) ((0 : Int32).toInt ≤ q_6.toInt ∧ q_6.toInt ≤ x_1.toInt)) := hq7
  have hP : va_P g.1 vwCl (List.flatten [bTT g tt ta o, bTown g o a pe wo tx ch jo tr dy sd f, bTape g ta ab sz ln kd2_2 bg2_3 nx2_4 ft2_5 fb]) H := hP
  have hD : va_D A (List.flatten [bTT g tt ta o, bTown g o a pe wo tx ch jo tr dy sd f, bTape g ta ab sz ln kd2_2 bg2_3 nx2_4 ft2_5 fb]) := hD
  refine W.widen (k := 0) (n := 0) (Nat.le_of_ble_eq_true rfl) (Nat.le_of_ble_eq_true rfl) ?_
  refine W.eq (g2 := F0 m 17 ls [.int q_6]) rfl ?_
  obtain ⟨hq7_0, hq7_1, hq7_2, hq7_3, hq7_4⟩ := hq7
  refine lv_istore_n (lv' := [(1, .int q_6), (0, .ref tt)]) hx hb dX10_readTrusts_17 rfl hl (by decide) rfl (fun ls hl => ?_)
  refine lv_iload_n hx hb dX10_readTrusts_18 rfl (lv_at hl 0 rfl) ?_
  refine lv_iconst (v := (-1)) hx hb dX10_readTrusts_19 (by decide) ?_
  refine lv_icmp_ne (tgt := 25) hx hb dX10_readTrusts_20 (by decide) (fun cb9 => ?_) (fun cb9 => ?_)
  · skip
    have c8 : ¬ q_6.toInt = (-1) := zne cb9 rfl (by decide)
    have w9 := hq7_4 c8
    have w10 : 0 ≤ q_6.toInt ∧ q_6.toInt ≤ 7 := by omega
    refine lv_aload_n hx hb dX10_readTrusts_25 rfl (lv_at hl 1 rfl) ?_
    refine va_get (D := g.1) (ci := 8) (v := .ref ta) (C := RX10) (T := TX10) (N := 2) hx hb hts izRX10 hown hK hP 0 rfl rfl 0 (by decide) (hts _ k441) (fun x9 h9 => u_same (hts _ k442) x9 h9) rfl dX10_readTrusts_26 ?_
    refine va_get (D := g.1) (ci := 6) (v := .int kd2_2) (C := RX6) (T := TX6) (N := 7) hx hb hts izRX6 hown hK hP 13 rfl rfl 3 (by decide) (hts _ k460) (fun _ h9 => h9) rfl dX10_readTrusts_29 ?_
    refine lv_iconst (v := 2) hx hb dX10_readTrusts_32 (by decide) ?_
    refine lv_icmp_ne (tgt := 61) hx hb dX10_readTrusts_33 (by decide) (fun cb9 => ?_) (fun cb9 => ?_)
    · skip
      have c11 : ¬ kd2_2.toInt = 2 := zne cb9 rfl (by decide)
      refine lv_aload_n hx hb dX10_readTrusts_61 rfl (lv_at hl 1 rfl) ?_
      refine va_get (D := g.1) (ci := 8) (v := .ref ta) (C := RX10) (T := TX10) (N := 2) hx hb hts izRX10 hown hK hP 0 rfl rfl 0 (by decide) (hts _ k441) (fun x9 h9 => u_same (hts _ k442) x9 h9) rfl dX10_readTrusts_62 ?_
      refine mcallV' (g := g) (q0 := 0) (ci := 6) (As := []) (rest := []) St hK hT hA hP hD hS hl.1 [2] [0, 1] rfl rfl rfl (c_t_refuse l g ta ab sz ln kd2_2 bg2_3 nx2_4 ft2_5 fb hln hq7_0 hq7_1 hq7_2 hq7_3) (cwV 0 hts (zgL (zl4 k443 k279 k280 k277) k269) rfl rfl rfl (by decide +kernel) ⟨Nat.le_of_ble_eq_true rfl, Nat.le_of_ble_eq_true rfl⟩) rfl rfl rfl rfl (Nat.le_of_ble_eq_true rfl) dX10_readTrusts_65 ⟨(Nat.le_of_ble_eq_true rfl), (Nat.le_of_ble_eq_true rfl)⟩ (fun ft2_12 H locs hq13 hP hD hS => ?_)
      replace hq13 : (-1 ≤ ft2_12.toInt) := hq13
      have hP : va_P g.1 vwCl (List.flatten [bTT g tt ta o, bTown g o a pe wo tx ch jo tr dy sd f, bTape g ta ab sz ln kd2_2 bg2_3 nx2_4 ft2_12 fb]) H := hP
      have hD : va_D A (List.flatten [bTT g tt ta o, bTown g o a pe wo tx ch jo tr dy sd f, bTape g ta ab sz ln kd2_2 bg2_3 nx2_4 ft2_12 fb]) := hD
      refine W.widen (k := 0) (n := 0) (Nat.le_of_ble_eq_true rfl) (Nat.le_of_ble_eq_true rfl) ?_
      refine W.eq (g2 := F0 m 68 ls [.int 0]) rfl ?_
      have hP : va_P g.1 vwCl (List.flatten [bTT g tt ta o, bTown g o a pe wo tx ch jo tr dy sd f, bTape g ta ab sz ln kd2_2 bg2_3 nx2_4 ft2_12 fb]) H := hP
      have hD : va_D A (List.flatten [bTT g tt ta o, bTown g o a pe wo tx ch jo tr dy sd f, bTape g ta ab sz ln kd2_2 bg2_3 nx2_4 ft2_12 fb]) := hD
      obtain ⟨hP, hD⟩ := zord (g := g) (Bs' := [bTT g tt ta o, bTape g ta ab sz ln kd2_2 bg2_3 nx2_4 ft2_12 fb, bTown g o a pe wo tx ch jo tr dy sd f]) [0, 2, 1] rfl rfl hP hD
      exact mret_z hx hb hr hlocks hS (Nat.le_of_ble_eq_true rfl) (Nat.le_of_ble_eq_true rfl) dX10_readTrusts_68 (kd2_2, bg2_3, nx2_4, ft2_12, f, (0 : Int32)) rfl (by decide) (show (zZ4 f) ∧ (-1 ≤ ft2_12.toInt) ∧ (0 ≤ nx2_4.toInt ∧ nx2_4.toInt ≤ 400) ∧ (0 ≤ bg2_3.toInt ∧ bg2_3.toInt ≤ 400) ∧ (zKd kd2_2.toInt bg2_3.toInt nx2_4.toInt) ∧ (0 = 0 ∨ 0 = 1) from ⟨rf, hq13, hq7_0, hq7_1, hq7_2, (by decide)⟩) hP hD
    · skip
      have c14 : kd2_2.toInt = 2 := zeq cb9 rfl (by decide)
      have n15 : 2 ≤ kd2_2.toInt := Int.le_trans (Int.le_refl _) (Int.le_of_eq c14.symm)
      have n16 : kd2_2.toInt ≤ 2 := Int.le_trans (Int.le_of_eq c14) (Int.le_refl _)
      refine lv_aload_n hx hb dX10_readTrusts_36 rfl (lv_at hl 1 rfl) ?_
      refine va_get (D := g.1) (ci := 8) (v := .ref ta) (C := RX10) (T := TX10) (N := 2) hx hb hts izRX10 hown hK hP 0 rfl rfl 0 (by decide) (hts _ k441) (fun x9 h9 => u_same (hts _ k442) x9 h9) rfl dX10_readTrusts_37 ?_
      refine va_get (D := g.1) (ci := 6) (v := .int nx2_4) (C := RX6) (T := TX6) (N := 7) hx hb hts izRX6 hown hK hP 13 rfl rfl 5 (by decide) (hts _ k461) (fun _ h9 => h9) rfl dX10_readTrusts_40 ?_
      refine lv_aload_n hx hb dX10_readTrusts_43 rfl (lv_at hl 1 rfl) ?_
      refine va_get (D := g.1) (ci := 8) (v := .ref ta) (C := RX10) (T := TX10) (N := 2) hx hb hts izRX10 hown hK hP 0 rfl rfl 0 (by decide) (hts _ k441) (fun x9 h9 => u_same (hts _ k442) x9 h9) rfl dX10_readTrusts_44 ?_
      refine va_get (D := g.1) (ci := 6) (v := .int bg2_3) (C := RX6) (T := TX6) (N := 7) hx hb hts izRX6 hown hK hP 13 rfl rfl 4 (by decide) (hts _ k462) (fun _ h9 => h9) rfl dX10_readTrusts_47 ?_
      refine lv_isub hx hb dX10_readTrusts_50 ?_
      refine zg3 (zsubK (i := nx2_4.toInt) (j := bg2_3.toInt) (a' := (-400)) (b' := 400) rfl rfl hq7_0.1 hq7_0.2 hq7_1.1 hq7_1.2 (by decide)) (fun x_17 hx_17 => ?_)
      refine lv_aload_n hx hb dX10_readTrusts_51 rfl (lv_at hl 1 rfl) ?_
      refine va_get (D := g.1) (ci := 8) (v := .ref o) (C := RX10) (T := TX10) (N := 2) hx hb hts izRX10 hown hK hP 0 rfl rfl 1 (by decide) (hts _ k439) (fun _ h9 => h9) rfl dX10_readTrusts_52 ?_
      refine va_get (D := g.1) (ci := 7) (v := .int pe) (C := RX9) (T := TX9) (N := 19) hx hb hts izRX9 hown hK hP 1 rfl rfl 0 (by decide) (hts _ k440) (fun _ h9 => h9) rfl dX10_readTrusts_55 ?_
      refine lv_icmp_eq (tgt := 69) hx hb dX10_readTrusts_58 (by decide) (fun cb9 => ?_) (fun cb9 => ?_)
      · skip
        have c18 : x_17.toInt = pe.toInt := zeq cb9 rfl rfl
        have n19 : 0 ≤ x_17.toInt := Int.le_trans b_pe.1 (Int.le_of_eq c18.symm)
        have n20 : x_17.toInt ≤ 8 := Int.le_trans (Int.le_of_eq c18) b_pe.2
        refine lv_iconst (v := 0) hx hb dX10_readTrusts_69 (by decide) ?_
        refine lv_istore_n (lv' := [(2, .int 0), (1, .int q_6), (0, .ref tt)]) hx hb dX10_readTrusts_70 rfl hl (by decide) rfl (fun ls hl => ?_)
        have hl := lv_sub (l' := [(0, .ref tt), (1, .int q_6), (2, .int 0)]) hl [2, 1, 0] rfl
        have LP71_25 : ∀ (kf : Nat) (x_21 : Int32) (f_22 : Nat → Nat → Int32), (0 ≤ x_21.toInt ∧ x_21.toInt ≤ 8) → (zZ4 f_22) → (zKd kd2_2.toInt bg2_3.toInt nx2_4.toInt) → ∀ (H : Heap) (locs : List Loc) (ls : Array Slot), ((9 - x_21.toInt).toNat) < kf → va_P g.1 vwCl (List.flatten [bTT g tt ta o, bTown g o a pe wo tx ch jo tr dy sd f_22, bTape g ta ab sz ln kd2_2 bg2_3 nx2_4 ft2_5 fb]) H → va_D A (List.flatten [bTT g tt ta o, bTown g o a pe wo tx ch jo tr dy sd f_22, bTape g ta ab sz ln kd2_2 bg2_3 nx2_4 ft2_5 fb]) → va_S A s.heap H locs → lv_has ls 3 [(0, .ref tt), (1, .int q_6), (2, .int x_21)] → W p l e ({ frames := 2, cells := 0, slots := 0, locals := 45 } : Room) s m args below meth c H locs (0) (0) (zF g (fun u : Int32 × Int32 × Int32 × Int32 × (Nat → Nat → Int32) × Int32 => (fun (kd2 : Int32) (bg2 : Int32) (nx2 : Int32) (ft2 : Int32) (f2 : Nat → Nat → Int32) (q : Int32) => some (.int q)) (u.1) (u.2.1) (u.2.2.1) (u.2.2.2.1) (u.2.2.2.2.1) (u.2.2.2.2.2)) (fun u : Int32 × Int32 × Int32 × Int32 × (Nat → Nat → Int32) × Int32 => (fun (kd2 : Int32) (bg2 : Int32) (nx2 : Int32) (ft2 : Int32) (f2 : Nat → Nat → Int32) (q : Int32) => (zZ4 f2) ∧ (-1 ≤ ft2.toInt) ∧ (0 ≤ nx2.toInt ∧ nx2.toInt ≤ 400) ∧ (0 ≤ bg2.toInt ∧ bg2.toInt ≤ 400) ∧ (zKd kd2.toInt bg2.toInt nx2.toInt) ∧ (q = 0 ∨ q = 1)) (u.1) (u.2.1) (u.2.2.1) (u.2.2.2.1) (u.2.2.2.2.1) (u.2.2.2.2.2)) (fun u : Int32 × Int32 × Int32 × Int32 × (Nat → Nat → Int32) × Int32 => (fun (kd2 : Int32) (bg2 : Int32) (nx2 : Int32) (ft2 : Int32) (f2 : Nat → Nat → Int32) (q : Int32) => [bTT g tt ta o, bTape g ta ab sz ln kd2 bg2 nx2 ft2 fb, bTown g o a pe wo tx ch jo tr dy sd f2]) (u.1) (u.2.1) (u.2.2.1) (u.2.2.2.1) (u.2.2.2.2.1) (u.2.2.2.2.2)) ({ frames := 2, cells := 0, slots := 0, locals := 45 } : Room) below args s A) (F0 m 71 ls []) := by
          intro kf
          induction kf with
          | zero => intro x_21 f_22 i23 rf_22 i24 H locs ls hk; exact absurd hk (Nat.not_lt_zero _)
          | succ kf ih71_26 =>
            intro x_21 f_22 i23 rf_22 i24 H locs ls hk71_26 hP hD hS hl
            refine lv_iload_n hx hb dX10_readTrusts_71 rfl (lv_at hl 2 rfl) ?_
            refine lv_aload_n hx hb dX10_readTrusts_72 rfl (lv_at hl 0 rfl) ?_
            refine va_get (D := g.1) (ci := 8) (v := .ref o) (C := RX10) (T := TX10) (N := 2) hx hb hts izRX10 hown hK hP 0 rfl rfl 1 (by decide) (hts _ k439) (fun _ h9 => h9) rfl dX10_readTrusts_73 ?_
            refine va_get (D := g.1) (ci := 7) (v := .int pe) (C := RX9) (T := TX9) (N := 19) hx hb hts izRX9 hown hK hP 1 rfl rfl 0 (by decide) (hts _ k440) (fun _ h9 => h9) rfl dX10_readTrusts_76 ?_
            refine lv_icmp_ge (tgt := 122) hx hb dX10_readTrusts_79 (by decide) (fun cb9 => ?_) (fun cb9 => ?_)
            · skip
              have c27 : pe.toInt ≤ x_21.toInt := zle cb9 rfl rfl
              refine lv_aload_n hx hb dX10_readTrusts_122 rfl (lv_at hl 0 rfl) ?_
              refine va_get (D := g.1) (ci := 8) (v := .ref ta) (C := RX10) (T := TX10) (N := 2) hx hb hts izRX10 hown hK hP 0 rfl rfl 0 (by decide) (hts _ k441) (fun x9 h9 => u_same (hts _ k442) x9 h9) rfl dX10_readTrusts_123 ?_
              refine mcallV' (g := g) (q0 := 0) (ci := 6) (As := []) (rest := []) St hK hT hA hP hD hS hl.1 [2] [0, 1] rfl rfl rfl (c_t_step l g ta ab sz ln kd2_2 bg2_3 nx2_4 ft2_5 fb hln hq7_0) (cwV 0 hts (zgL (zl4 k444 k275 k276 k277) k271) rfl rfl rfl (by decide +kernel) ⟨Nat.le_of_ble_eq_true rfl, Nat.le_of_ble_eq_true rfl⟩) rfl rfl rfl rfl (Nat.le_of_ble_eq_true rfl) dX10_readTrusts_126 ⟨(Nat.le_of_ble_eq_true rfl), (Nat.le_of_ble_eq_true rfl)⟩ (fun u_ H locs hq31 hP hD hS => ?_)
              obtain ⟨kd2_28, bg2_29, nx2_30⟩ := u_
              replace hq31 : (0 ≤ nx2_30.toInt ∧ nx2_30.toInt ≤ 400) ∧ (0 ≤ bg2_29.toInt ∧ bg2_29.toInt ≤ 400) ∧ (zKd kd2_28.toInt bg2_29.toInt nx2_30.toInt) := hq31
              have hP : va_P g.1 vwCl (List.flatten [bTT g tt ta o, bTown g o a pe wo tx ch jo tr dy sd f_22, bTape g ta ab sz ln kd2_28 bg2_29 nx2_30 ft2_5 fb]) H := hP
              have hD : va_D A (List.flatten [bTT g tt ta o, bTown g o a pe wo tx ch jo tr dy sd f_22, bTape g ta ab sz ln kd2_28 bg2_29 nx2_30 ft2_5 fb]) := hD
              refine W.widen (k := 0) (n := 0) (Nat.le_of_ble_eq_true rfl) (Nat.le_of_ble_eq_true rfl) ?_
              refine W.eq (g2 := F0 m 129 ls []) rfl ?_
              obtain ⟨hq31_0, hq31_1, hq31_2⟩ := hq31
              refine lv_iconst (v := 1) hx hb dX10_readTrusts_129 (by decide) ?_
              have hP : va_P g.1 vwCl (List.flatten [bTT g tt ta o, bTown g o a pe wo tx ch jo tr dy sd f_22, bTape g ta ab sz ln kd2_28 bg2_29 nx2_30 ft2_5 fb]) H := hP
              have hD : va_D A (List.flatten [bTT g tt ta o, bTown g o a pe wo tx ch jo tr dy sd f_22, bTape g ta ab sz ln kd2_28 bg2_29 nx2_30 ft2_5 fb]) := hD
              obtain ⟨hP, hD⟩ := zord (g := g) (Bs' := [bTT g tt ta o, bTape g ta ab sz ln kd2_28 bg2_29 nx2_30 ft2_5 fb, bTown g o a pe wo tx ch jo tr dy sd f_22]) [0, 2, 1] rfl rfl hP hD
              exact mret_z hx hb hr hlocks hS (Nat.le_of_ble_eq_true rfl) (Nat.le_of_ble_eq_true rfl) dX10_readTrusts_130 (kd2_28, bg2_29, nx2_30, ft2_5, f_22, (1 : Int32)) rfl (by decide) (show (zZ4 f_22) ∧ (-1 ≤ ft2_5.toInt) ∧ (0 ≤ nx2_30.toInt ∧ nx2_30.toInt ≤ 400) ∧ (0 ≤ bg2_29.toInt ∧ bg2_29.toInt ≤ 400) ∧ (zKd kd2_28.toInt bg2_29.toInt nx2_30.toInt) ∧ (1 = 0 ∨ 1 = 1) from ⟨rf_22, hq7_3, hq31_0, hq31_1, hq31_2, (by decide)⟩) hP hD
            · skip
              have c32 : x_21.toInt < pe.toInt := zlti (Int32.not_le.mp cb9) rfl rfl
              have n33 : x_21.toInt ≤ 7 := zL1 (b := 8) c32 b_pe.2 (by decide)
              have n34 : 1 ≤ pe.toInt := zL2 (a := 0) c32 i23.1 (by decide)
              refine lv_iload_n hx hb dX10_readTrusts_82 rfl (lv_at hl 2 rfl) ?_
              refine lv_iload_n hx hb dX10_readTrusts_83 rfl (lv_at hl 1 rfl) ?_
              refine lv_icmp_eq (tgt := 116) hx hb dX10_readTrusts_84 (by decide) (fun cb9 => ?_) (fun cb9 => ?_)
              · skip
                have c35 : x_21.toInt = q_6.toInt := zeq cb9 rfl rfl
                refine ziinc3 (n' := 1) (a' := 1) (b' := 8) (lv' := fun v9 => [(2, .int v9), (0, .ref tt), (1, .int q_6)]) hx hb dX10_readTrusts_116 hl (k := 2) rfl (by decide) (fun _ => rfl) (zaddK (i := x_21.toInt) (j := 1) rfl (by decide) i23.1 n33 (Int.le_refl _) (Int.le_refl _) (by decide)) (fun x_36 ls hx_36 hl => ?_)
                refine lv_goto (tgt := 71) hx hb dX10_readTrusts_119 (by decide) ?_
                have hl := lv_sub (l' := [(0, .ref tt), (1, .int q_6), (2, .int x_36)]) hl [1, 2, 0] rfl
                have hP : va_P g.1 vwCl (List.flatten [bTT g tt ta o, bTown g o a pe wo tx ch jo tr dy sd f_22, bTape g ta ab sz ln kd2_2 bg2_3 nx2_4 ft2_5 fb]) H := hP
                have hD : va_D A (List.flatten [bTT g tt ta o, bTown g o a pe wo tx ch jo tr dy sd f_22, bTape g ta ab sz ln kd2_2 bg2_3 nx2_4 ft2_5 fb]) := hD
                exact ih71_26 x_36 f_22 ⟨(Int.le_trans (by decide) hx_36.2.1), hx_36.2.2⟩ rf_22 i24 H _ ls (zmK hx_36.1 (by decide) n33 (by decide) hk71_26)  hP hD hS (lv_sub hl [0, 1, 2] rfl)
              · skip
                have c37 : ¬ x_21.toInt = q_6.toInt := zne cb9 rfl rfl
                refine lv_aload_n hx hb dX10_readTrusts_87 rfl (lv_at hl 0 rfl) ?_
                refine va_get (D := g.1) (ci := 8) (v := .ref o) (C := RX10) (T := TX10) (N := 2) hx hb hts izRX10 hown hK hP 0 rfl rfl 1 (by decide) (hts _ k439) (fun _ h9 => h9) rfl dX10_readTrusts_88 ?_
                refine lv_iload_n hx hb dX10_readTrusts_91 rfl (lv_at hl 1 rfl) ?_
                refine lv_iload_n hx hb dX10_readTrusts_92 rfl (lv_at hl 2 rfl) ?_
                refine lv_aload_n hx hb dX10_readTrusts_93 rfl (lv_at hl 0 rfl) ?_
                refine va_get (D := g.1) (ci := 8) (v := .ref ta) (C := RX10) (T := TX10) (N := 2) hx hb hts izRX10 hown hK hP 0 rfl rfl 0 (by decide) (hts _ k441) (fun x9 h9 => u_same (hts _ k442) x9 h9) rfl dX10_readTrusts_94 ?_
                refine va_get (D := g.1) (ci := 6) (v := .ref ab) (C := RX6) (T := TX6) (N := 7) hx hb hts izRX6 hown hK hP 13 rfl rfl 0 (by decide) (hts _ k463) (fun _ h9 => h9) rfl dX10_readTrusts_97 ?_
                refine lv_aload_n hx hb dX10_readTrusts_100 rfl (lv_at hl 0 rfl) ?_
                refine va_get (D := g.1) (ci := 8) (v := .ref ta) (C := RX10) (T := TX10) (N := 2) hx hb hts izRX10 hown hK hP 0 rfl rfl 0 (by decide) (hts _ k441) (fun x9 h9 => u_same (hts _ k442) x9 h9) rfl dX10_readTrusts_101 ?_
                refine va_get (D := g.1) (ci := 6) (v := .int bg2_3) (C := RX6) (T := TX6) (N := 7) hx hb hts izRX6 hown hK hP 13 rfl rfl 4 (by decide) (hts _ k462) (fun _ h9 => h9) rfl dX10_readTrusts_104 ?_
                refine lv_iload_n hx hb dX10_readTrusts_107 rfl (lv_at hl 2 rfl) ?_
                refine lv_iadd hx hb dX10_readTrusts_108 ?_
                refine zg3 (zaddK (i := bg2_3.toInt) (j := x_21.toInt) (a' := 0) (b' := 407) rfl rfl hq7_1.1 hq7_1.2 i23.1 n33 (by decide)) (fun x_38 hx_38 => ?_)
                refine va_iald hx hb hK hP 14 0 rfl rfl (zinI (by omega) (by omega)) dX10_readTrusts_109 ?_
                refine zg (fun x_39 => ?_)
                refine lv_bipush (v := 48) hx hb dX10_readTrusts_110 (by decide) ?_
                refine lv_isub hx hb dX10_readTrusts_112 ?_
                refine zg (fun x_40 => ?_)
                refine mcallV' (g := g) (q0 := 0) (ci := 7) (As := [.int q_6, .int x_21, .int x_40]) (rest := []) St hK hT hA hP hD hS hl.1 [1] [0, 2] rfl rfl rfl (c_setTrust l g o a pe wo tx ch jo tr dy sd f_22 q_6 x_21 x_40 rf_22 (⟨w10.1, w10.2⟩) (⟨i23.1, n33⟩)) (cwV 3 hts (zgL (zl4 k464 k437 k438 k24) k434) rfl rfl rfl (by decide +kernel) ⟨Nat.le_of_ble_eq_true rfl, Nat.le_of_ble_eq_true rfl⟩) rfl rfl rfl rfl (Nat.le_of_ble_eq_true rfl) dX10_readTrusts_113 ⟨(Nat.le_of_ble_eq_true rfl), (Nat.le_of_ble_eq_true rfl)⟩ (fun f2_41 H locs hq42 hP hD hS => ?_)
                replace hq42 : (zZ4 f2_41) := hq42
                have hP : va_P g.1 vwCl (List.flatten [bTT g tt ta o, bTape g ta ab sz ln kd2_2 bg2_3 nx2_4 ft2_5 fb, bTown g o a pe wo tx ch jo tr dy sd f2_41]) H := hP
                have hD : va_D A (List.flatten [bTT g tt ta o, bTape g ta ab sz ln kd2_2 bg2_3 nx2_4 ft2_5 fb, bTown g o a pe wo tx ch jo tr dy sd f2_41]) := hD
                refine W.widen (k := 0) (n := 0) (Nat.le_of_ble_eq_true rfl) (Nat.le_of_ble_eq_true rfl) ?_
                refine W.eq (g2 := F0 m 116 ls []) rfl ?_
                have rf2_41 := hq42; clear hq42
                refine ziinc3 (n' := 1) (a' := 1) (b' := 8) (lv' := fun v9 => [(2, .int v9), (0, .ref tt), (1, .int q_6)]) hx hb dX10_readTrusts_116 hl (k := 2) rfl (by decide) (fun _ => rfl) (zaddK (i := x_21.toInt) (j := 1) rfl (by decide) i23.1 n33 (Int.le_refl _) (Int.le_refl _) (by decide)) (fun x_43 ls hx_43 hl => ?_)
                refine lv_goto (tgt := 71) hx hb dX10_readTrusts_119 (by decide) ?_
                have hl := lv_sub (l' := [(0, .ref tt), (1, .int q_6), (2, .int x_43)]) hl [1, 2, 0] rfl
                have hP : va_P g.1 vwCl (List.flatten [bTT g tt ta o, bTape g ta ab sz ln kd2_2 bg2_3 nx2_4 ft2_5 fb, bTown g o a pe wo tx ch jo tr dy sd f2_41]) H := hP
                have hD : va_D A (List.flatten [bTT g tt ta o, bTape g ta ab sz ln kd2_2 bg2_3 nx2_4 ft2_5 fb, bTown g o a pe wo tx ch jo tr dy sd f2_41]) := hD
                obtain ⟨hP, hD⟩ := zord (g := g) (Bs' := [bTT g tt ta o, bTown g o a pe wo tx ch jo tr dy sd f2_41, bTape g ta ab sz ln kd2_2 bg2_3 nx2_4 ft2_5 fb]) [0, 2, 1] rfl rfl hP hD
                have hP : va_P g.1 vwCl (List.flatten [bTT g tt ta o, bTown g o a pe wo tx ch jo tr dy sd f2_41, bTape g ta ab sz ln kd2_2 bg2_3 nx2_4 ft2_5 fb]) H := hP
                have hD : va_D A (List.flatten [bTT g tt ta o, bTown g o a pe wo tx ch jo tr dy sd f2_41, bTape g ta ab sz ln kd2_2 bg2_3 nx2_4 ft2_5 fb]) := hD
                exact ih71_26 x_43 f2_41 ⟨(Int.le_trans (by decide) hx_43.2.1), hx_43.2.2⟩ rf2_41 i24 H _ ls (zmK hx_43.1 (by decide) n33 (by decide) hk71_26)  hP hD hS (lv_sub hl [0, 1, 2] rfl)
        have hP : va_P g.1 vwCl (List.flatten [bTT g tt ta o, bTown g o a pe wo tx ch jo tr dy sd f, bTape g ta ab sz ln kd2_2 bg2_3 nx2_4 ft2_5 fb]) H := hP
        have hD : va_D A (List.flatten [bTT g tt ta o, bTown g o a pe wo tx ch jo tr dy sd f, bTape g ta ab sz ln kd2_2 bg2_3 nx2_4 ft2_5 fb]) := hD
        exact LP71_25 _ 0 f (by decide) rf hq7_2 H _ ls (Nat.lt_succ_self _)  hP hD hS (lv_sub hl [0, 1, 2] rfl)
      · skip
        have c44 : ¬ x_17.toInt = pe.toInt := zne cb9 rfl rfl
        refine lv_aload_n hx hb dX10_readTrusts_61 rfl (lv_at hl 1 rfl) ?_
        refine va_get (D := g.1) (ci := 8) (v := .ref ta) (C := RX10) (T := TX10) (N := 2) hx hb hts izRX10 hown hK hP 0 rfl rfl 0 (by decide) (hts _ k441) (fun x9 h9 => u_same (hts _ k442) x9 h9) rfl dX10_readTrusts_62 ?_
        refine mcallV' (g := g) (q0 := 0) (ci := 6) (As := []) (rest := []) St hK hT hA hP hD hS hl.1 [2] [0, 1] rfl rfl rfl (c_t_refuse l g ta ab sz ln kd2_2 bg2_3 nx2_4 ft2_5 fb hln hq7_0 hq7_1 hq7_2 hq7_3) (cwV 0 hts (zgL (zl4 k443 k279 k280 k277) k269) rfl rfl rfl (by decide +kernel) ⟨Nat.le_of_ble_eq_true rfl, Nat.le_of_ble_eq_true rfl⟩) rfl rfl rfl rfl (Nat.le_of_ble_eq_true rfl) dX10_readTrusts_65 ⟨(Nat.le_of_ble_eq_true rfl), (Nat.le_of_ble_eq_true rfl)⟩ (fun ft2_45 H locs hq46 hP hD hS => ?_)
        replace hq46 : (-1 ≤ ft2_45.toInt) := hq46
        have hP : va_P g.1 vwCl (List.flatten [bTT g tt ta o, bTown g o a pe wo tx ch jo tr dy sd f, bTape g ta ab sz ln kd2_2 bg2_3 nx2_4 ft2_45 fb]) H := hP
        have hD : va_D A (List.flatten [bTT g tt ta o, bTown g o a pe wo tx ch jo tr dy sd f, bTape g ta ab sz ln kd2_2 bg2_3 nx2_4 ft2_45 fb]) := hD
        refine W.widen (k := 0) (n := 0) (Nat.le_of_ble_eq_true rfl) (Nat.le_of_ble_eq_true rfl) ?_
        refine W.eq (g2 := F0 m 68 ls [.int 0]) rfl ?_
        have hP : va_P g.1 vwCl (List.flatten [bTT g tt ta o, bTown g o a pe wo tx ch jo tr dy sd f, bTape g ta ab sz ln kd2_2 bg2_3 nx2_4 ft2_45 fb]) H := hP
        have hD : va_D A (List.flatten [bTT g tt ta o, bTown g o a pe wo tx ch jo tr dy sd f, bTape g ta ab sz ln kd2_2 bg2_3 nx2_4 ft2_45 fb]) := hD
        obtain ⟨hP, hD⟩ := zord (g := g) (Bs' := [bTT g tt ta o, bTape g ta ab sz ln kd2_2 bg2_3 nx2_4 ft2_45 fb, bTown g o a pe wo tx ch jo tr dy sd f]) [0, 2, 1] rfl rfl hP hD
        exact mret_z hx hb hr hlocks hS (Nat.le_of_ble_eq_true rfl) (Nat.le_of_ble_eq_true rfl) dX10_readTrusts_68 (kd2_2, bg2_3, nx2_4, ft2_45, f, (0 : Int32)) rfl (by decide) (show (zZ4 f) ∧ (-1 ≤ ft2_45.toInt) ∧ (0 ≤ nx2_4.toInt ∧ nx2_4.toInt ≤ 400) ∧ (0 ≤ bg2_3.toInt ∧ bg2_3.toInt ≤ 400) ∧ (zKd kd2_2.toInt bg2_3.toInt nx2_4.toInt) ∧ (0 = 0 ∨ 0 = 1) from ⟨rf, hq46, hq7_0, hq7_1, hq7_2, (by decide)⟩) hP hD
  · skip
    have c47 : q_6.toInt = (-1) := zeq cb9 rfl (by decide)
    have n48 : q_6.toInt ≤ (-1) := Int.le_trans (Int.le_of_eq c47) (Int.le_refl _)
    refine lv_iconst (v := 0) hx hb dX10_readTrusts_23 (by decide) ?_
    have hP : va_P g.1 vwCl (List.flatten [bTT g tt ta o, bTown g o a pe wo tx ch jo tr dy sd f, bTape g ta ab sz ln kd2_2 bg2_3 nx2_4 ft2_5 fb]) H := hP
    have hD : va_D A (List.flatten [bTT g tt ta o, bTown g o a pe wo tx ch jo tr dy sd f, bTape g ta ab sz ln kd2_2 bg2_3 nx2_4 ft2_5 fb]) := hD
    obtain ⟨hP, hD⟩ := zord (g := g) (Bs' := [bTT g tt ta o, bTape g ta ab sz ln kd2_2 bg2_3 nx2_4 ft2_5 fb, bTown g o a pe wo tx ch jo tr dy sd f]) [0, 2, 1] rfl rfl hP hD
    exact mret_z hx hb hr hlocks hS (Nat.le_of_ble_eq_true rfl) (Nat.le_of_ble_eq_true rfl) dX10_readTrusts_24 (kd2_2, bg2_3, nx2_4, ft2_5, f, (0 : Int32)) rfl (by decide) (show (zZ4 f) ∧ (-1 ≤ ft2_5.toInt) ∧ (0 ≤ nx2_4.toInt ∧ nx2_4.toInt ≤ 400) ∧ (0 ≤ bg2_3.toInt ∧ bg2_3.toInt ≤ 400) ∧ (zKd kd2_2.toInt bg2_3.toInt nx2_4.toInt) ∧ (0 = 0 ∨ 0 = 1) from ⟨rf, hq7_3, hq7_0, hq7_1, hq7_2, (by decide)⟩) hP hD
