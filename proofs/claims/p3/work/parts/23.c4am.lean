set_option maxRecDepth 100000 in
set_option maxHeartbeats 4000000 in
theorem c_lt_readDeeper5 (l : Launch) (g : zG) (lt : Nat) (ta : Nat) (lo : Nat) (ab : Nat) (sz : Int32) (ln : Int32) (kd : Int32) (bg : Int32) (nx : Int32) (ft : Int32) (fb : Nat → Int32) (lc : Nat) (lz : Int32) (ll : Int32) (lm : Int32) (lg : Int32) (ld : Int32) (fc : Nat → Int32) (b_lz : 0 ≤ lz.toInt ∧ lz.toInt ≤ 400) (hln : 0 ≤ ln.toInt ∧ ln.toInt ≤ 400) (hnx : 0 ≤ nx.toInt ∧ nx.toInt ≤ 400) (hbg : 0 ≤ bg.toInt ∧ bg.toInt ≤ 400) (hkd : zKd kd.toInt bg.toInt nx.toInt) (hft : -1 ≤ ft.toInt) : zM' g l yX2_readDeeper (Cond.code yX2_readDeeper cX2_readDeeper 2 (some .boolean) :: zB) ({ frames := 11, cells := 0, slots := 0, locals := 243 } : Room) [.ref lt, .int 5] [bLT g lt ta lo, bTape g ta ab sz ln kd bg nx ft fb, bLaw g lo lc lz ll lm lg ld fc] (fun u : Int32 × Int32 × Int32 × Int32 × Int32 × (Nat → Int32) × Int32 => (fun (kd2 : Int32) (bg2 : Int32) (nx2 : Int32) (ft2 : Int32) (lz2 : Int32) (fc2 : Nat → Int32) (q : Int32) => some (.int q)) (u.1) (u.2.1) (u.2.2.1) (u.2.2.2.1) (u.2.2.2.2.1) (u.2.2.2.2.2.1) (u.2.2.2.2.2.2)) (fun u : Int32 × Int32 × Int32 × Int32 × Int32 × (Nat → Int32) × Int32 => (fun (kd2 : Int32) (bg2 : Int32) (nx2 : Int32) (ft2 : Int32) (lz2 : Int32) (fc2 : Nat → Int32) (q : Int32) => (0 ≤ lz2.toInt ∧ lz2.toInt ≤ 400) ∧ (-1 ≤ ft2.toInt) ∧ (0 ≤ nx2.toInt ∧ nx2.toInt ≤ 400) ∧ (0 ≤ bg2.toInt ∧ bg2.toInt ≤ 400) ∧ (zKd kd2.toInt bg2.toInt nx2.toInt) ∧ (q = 0 ∨ q = 1)) (u.1) (u.2.1) (u.2.2.1) (u.2.2.2.1) (u.2.2.2.2.1) (u.2.2.2.2.2.1) (u.2.2.2.2.2.2)) (fun u : Int32 × Int32 × Int32 × Int32 × Int32 × (Nat → Int32) × Int32 => (fun (kd2 : Int32) (bg2 : Int32) (nx2 : Int32) (ft2 : Int32) (lz2 : Int32) (fc2 : Nat → Int32) (q : Int32) => [bLT g lt ta lo, bTape g ta ab sz ln kd2 bg2 nx2 ft2 fb, bLaw g lo lc lz2 ll lm lg ld fc2]) (u.1) (u.2.1) (u.2.2.1) (u.2.2.2.1) (u.2.2.2.2.1) (u.2.2.2.2.2.1) (u.2.2.2.2.2.2)) := by
  refine zM'.of (cc := cX2_readDeeper) (maxL := 2) (rt := (some .boolean)) (by decide) rfl (Nat.le_of_ble_eq_true rfl) ?_
  intro p e s m args below meth c A ls St hr hlocks hin hK hT hA hP hD hS hl
  obtain ⟨hx, hb, hml, hown, hts⟩ := id St
  have hl : lv_has ls 2 [(0, .ref lt), (1, .int 5)] := hl
  refine lv_aload_n hx hb dX2_readDeeper_0 rfl (lv_at hl 0 rfl) ?_
  refine va_get (D := g.1) (ci := 2) (v := .ref ta) (C := RX2) (T := TX2) (N := 2) hx hb hts izRX2 hown hK hP 0 rfl rfl 0 (by decide) (hts _ k290) (fun x9 h9 => u_same (hts _ k291) x9 h9) rfl dX2_readDeeper_1 ?_
  refine lv_bipush (v := 40) hx hb dX2_readDeeper_4 (by decide) ?_
  refine mcallV' (g := g) (q0 := 0) (ci := 6) (As := [.int 40]) (rest := []) St hK hT hA hP hD hS hl.1 [1] [0, 2] rfl rfl rfl (c_t_takeSign l g ta ab sz ln kd bg nx ft fb 40 hln hnx hbg hkd hft) (cwV 1 hts (zgL (zl4 k300 k301 k302 k277) k286) rfl rfl rfl (by decide +kernel) ⟨Nat.le_of_ble_eq_true rfl, Nat.le_of_ble_eq_true rfl⟩) rfl rfl rfl rfl (Nat.le_of_ble_eq_true rfl) dX2_readDeeper_6 ⟨(Nat.le_of_ble_eq_true rfl), (Nat.le_of_ble_eq_true rfl)⟩ (fun u_ H locs hq5 hP hD hS => ?_)
  obtain ⟨kd2_1, bg2_2, nx2_3, q_4⟩ := u_
  replace hq5 : (0 ≤ nx2_3.toInt ∧ nx2_3.toInt ≤ 400) ∧ (0 ≤ bg2_2.toInt ∧ bg2_2.toInt ≤ 400) ∧ (zKd kd2_1.toInt bg2_2.toInt nx2_3.toInt) ∧ (q_4 = 0 ∨ q_4 = 1) := hq5
  have hP : va_P g.1 vwCl (List.flatten [bLT g lt ta lo, bLaw g lo lc lz ll lm lg ld fc, bTape g ta ab sz ln kd2_1 bg2_2 nx2_3 ft fb]) H := hP
  have hD : va_D A (List.flatten [bLT g lt ta lo, bLaw g lo lc lz ll lm lg ld fc, bTape g ta ab sz ln kd2_1 bg2_2 nx2_3 ft fb]) := hD
  refine W.widen (k := 0) (n := 0) (Nat.le_of_ble_eq_true rfl) (Nat.le_of_ble_eq_true rfl) ?_
  refine W.eq (g2 := F0 m 9 ls [.int q_4]) rfl ?_
  obtain ⟨hq5_0, hq5_1, hq5_2, hq5_3⟩ := hq5
  rcases hq5_3 with rfl | rfl
  · skip
    refine lv_if_eq (tgt := 48) hx hb dX2_readDeeper_9 (by decide) (fun _ => ?_) (fun c6 => absurd (by decide) c6)
    refine lv_aload_n hx hb dX2_readDeeper_48 rfl (lv_at hl 0 rfl) ?_
    refine va_get (D := g.1) (ci := 2) (v := .ref ta) (C := RX2) (T := TX2) (N := 2) hx hb hts izRX2 hown hK hP 0 rfl rfl 0 (by decide) (hts _ k290) (fun x9 h9 => u_same (hts _ k291) x9 h9) rfl dX2_readDeeper_49 ?_
    refine mcallV' (g := g) (q0 := 0) (ci := 6) (As := []) (rest := []) St hK hT hA hP hD hS hl.1 [2] [0, 1] rfl rfl rfl (c_t_step l g ta ab sz ln kd2_1 bg2_2 nx2_3 ft fb hln hq5_0) (cwV 0 hts (zgL (zl4 k296 k275 k276 k277) k271) rfl rfl rfl (by decide +kernel) ⟨Nat.le_of_ble_eq_true rfl, Nat.le_of_ble_eq_true rfl⟩) rfl rfl rfl rfl (Nat.le_of_ble_eq_true rfl) dX2_readDeeper_52 ⟨(Nat.le_of_ble_eq_true rfl), (Nat.le_of_ble_eq_true rfl)⟩ (fun u_ H locs hq10 hP hD hS => ?_)
    obtain ⟨kd2_7, bg2_8, nx2_9⟩ := u_
    replace hq10 : (0 ≤ nx2_9.toInt ∧ nx2_9.toInt ≤ 400) ∧ (0 ≤ bg2_8.toInt ∧ bg2_8.toInt ≤ 400) ∧ (zKd kd2_7.toInt bg2_8.toInt nx2_9.toInt) := hq10
    have hP : va_P g.1 vwCl (List.flatten [bLT g lt ta lo, bLaw g lo lc lz ll lm lg ld fc, bTape g ta ab sz ln kd2_7 bg2_8 nx2_9 ft fb]) H := hP
    have hD : va_D A (List.flatten [bLT g lt ta lo, bLaw g lo lc lz ll lm lg ld fc, bTape g ta ab sz ln kd2_7 bg2_8 nx2_9 ft fb]) := hD
    refine W.widen (k := 0) (n := 0) (Nat.le_of_ble_eq_true rfl) (Nat.le_of_ble_eq_true rfl) ?_
    refine W.eq (g2 := F0 m 55 ls []) rfl ?_
    obtain ⟨hq10_0, hq10_1, hq10_2⟩ := hq10
    refine lv_aload_n hx hb dX2_readDeeper_55 rfl (lv_at hl 0 rfl) ?_
    refine lv_iload_n hx hb dX2_readDeeper_56 rfl (lv_at hl 1 rfl) ?_
    refine mcallV' (g := g) (q0 := 0) (ci := 2) (As := [.int 5]) (rest := []) St hK hT hA hP hD hS hl.1 [0, 2, 1] [] rfl rfl rfl (c_lt_readAtom5 l g lt ta lo ab sz ln kd2_7 bg2_8 nx2_9 ft fb lc lz ll lm lg ld fc b_lz hln hq10_0 hq10_1 hq10_2 hft) (cwV 1 hts (zgL (zl4 k317 k318 k319 k309) k327) rfl rfl rfl (by decide +kernel) ⟨Nat.le_of_ble_eq_true rfl, Nat.le_of_ble_eq_true rfl⟩) rfl rfl rfl rfl (Nat.le_of_ble_eq_true rfl) dX2_readDeeper_57 ⟨(Nat.le_of_ble_eq_true rfl), (Nat.le_of_ble_eq_true rfl)⟩ (fun u_ H locs hq18 hP hD hS => ?_)
    obtain ⟨kd2_11, bg2_12, nx2_13, ft2_14, lz2_15, fc2_16, q_17⟩ := u_
    replace hq18 : (0 ≤ lz2_15.toInt ∧ lz2_15.toInt ≤ 400) ∧ (-1 ≤ ft2_14.toInt) ∧ (0 ≤ nx2_13.toInt ∧ nx2_13.toInt ≤ 400) ∧ (0 ≤ bg2_12.toInt ∧ bg2_12.toInt ≤ 400) ∧ (zKd kd2_11.toInt bg2_12.toInt nx2_13.toInt) ∧ (q_17 = 0 ∨ q_17 = 1) := hq18
    have hP : va_P g.1 vwCl (List.flatten [bLT g lt ta lo, bTape g ta ab sz ln kd2_11 bg2_12 nx2_13 ft2_14 fb, bLaw g lo lc lz2_15 ll lm lg ld fc2_16]) H := hP
    have hD : va_D A (List.flatten [bLT g lt ta lo, bTape g ta ab sz ln kd2_11 bg2_12 nx2_13 ft2_14 fb, bLaw g lo lc lz2_15 ll lm lg ld fc2_16]) := hD
    refine W.widen (k := 0) (n := 0) (Nat.le_of_ble_eq_true rfl) (Nat.le_of_ble_eq_true rfl) ?_
    refine W.eq (g2 := F0 m 60 ls [.int q_17]) rfl ?_
    obtain ⟨hq18_0, hq18_1, hq18_2, hq18_3, hq18_4, hq18_5⟩ := hq18
    rcases hq18_5 with rfl | rfl
    · skip
      refine lv_if_ne (tgt := 65) hx hb dX2_readDeeper_60 (by decide) (fun c19 => absurd (by decide) c19) (fun _ => ?_)
      refine lv_iconst (v := 0) hx hb dX2_readDeeper_63 (by decide) ?_
      have hP : va_P g.1 vwCl (List.flatten [bLT g lt ta lo, bTape g ta ab sz ln kd2_11 bg2_12 nx2_13 ft2_14 fb, bLaw g lo lc lz2_15 ll lm lg ld fc2_16]) H := hP
      have hD : va_D A (List.flatten [bLT g lt ta lo, bTape g ta ab sz ln kd2_11 bg2_12 nx2_13 ft2_14 fb, bLaw g lo lc lz2_15 ll lm lg ld fc2_16]) := hD
      exact mret_z hx hb hr hlocks hS (Nat.le_of_ble_eq_true rfl) (Nat.le_of_ble_eq_true rfl) dX2_readDeeper_64 (kd2_11, bg2_12, nx2_13, ft2_14, lz2_15, fc2_16, (0 : Int32)) rfl (by decide) (show (0 ≤ lz2_15.toInt ∧ lz2_15.toInt ≤ 400) ∧ (-1 ≤ ft2_14.toInt) ∧ (0 ≤ nx2_13.toInt ∧ nx2_13.toInt ≤ 400) ∧ (0 ≤ bg2_12.toInt ∧ bg2_12.toInt ≤ 400) ∧ (zKd kd2_11.toInt bg2_12.toInt nx2_13.toInt) ∧ (0 = 0 ∨ 0 = 1) from ⟨hq18_0, hq18_1, hq18_2, hq18_3, hq18_4, (by decide)⟩) hP hD
    · skip
      refine lv_if_ne (tgt := 65) hx hb dX2_readDeeper_60 (by decide) (fun _ => ?_) (fun c20 => absurd c20 (by decide))
      refine lv_aload_n hx hb dX2_readDeeper_65 rfl (lv_at hl 0 rfl) ?_
      refine va_get (D := g.1) (ci := 2) (v := .ref lo) (C := RX2) (T := TX2) (N := 2) hx hb hts izRX2 hown hK hP 0 rfl rfl 1 (by decide) (hts _ k210) (fun _ h9 => h9) rfl dX2_readDeeper_66 ?_
      refine lv_bipush (v := 12) hx hb dX2_readDeeper_69 (by decide) ?_
      refine lv_iconst (v := 0) hx hb dX2_readDeeper_71 (by decide) ?_
      refine mcallV' (g := g) (q0 := 0) (ci := 1) (As := [.int 12, .int 0]) (rest := []) St hK hT hA hP hD hS hl.1 [2] [0, 1] rfl rfl rfl (c_l_put l g lo lc lz2_15 ll lm lg ld fc2_16 12 0 hq18_0) (cwV 2 hts (zgL (zl4 k297 k298 k299 k85) k202) rfl rfl rfl (by decide +kernel) ⟨Nat.le_of_ble_eq_true rfl, Nat.le_of_ble_eq_true rfl⟩) rfl rfl rfl rfl (Nat.le_of_ble_eq_true rfl) dX2_readDeeper_72 ⟨(Nat.le_of_ble_eq_true rfl), (Nat.le_of_ble_eq_true rfl)⟩ (fun u_ H locs hq24 hP hD hS => ?_)
      obtain ⟨lz2_21, fc2_22, q_23⟩ := u_
      replace hq24 : (0 ≤ lz2_21.toInt ∧ lz2_21.toInt ≤ 400) := hq24
      have hP : va_P g.1 vwCl (List.flatten [bLT g lt ta lo, bTape g ta ab sz ln kd2_11 bg2_12 nx2_13 ft2_14 fb, bLaw g lo lc lz2_21 ll lm lg ld fc2_22]) H := hP
      have hD : va_D A (List.flatten [bLT g lt ta lo, bTape g ta ab sz ln kd2_11 bg2_12 nx2_13 ft2_14 fb, bLaw g lo lc lz2_21 ll lm lg ld fc2_22]) := hD
      refine W.widen (k := 0) (n := 0) (Nat.le_of_ble_eq_true rfl) (Nat.le_of_ble_eq_true rfl) ?_
      refine W.eq (g2 := F0 m 75 ls [.int q_23]) rfl ?_
      refine lv_pop hx hb dX2_readDeeper_75 rfl ?_
      refine lv_iconst (v := 1) hx hb dX2_readDeeper_76 (by decide) ?_
      have hP : va_P g.1 vwCl (List.flatten [bLT g lt ta lo, bTape g ta ab sz ln kd2_11 bg2_12 nx2_13 ft2_14 fb, bLaw g lo lc lz2_21 ll lm lg ld fc2_22]) H := hP
      have hD : va_D A (List.flatten [bLT g lt ta lo, bTape g ta ab sz ln kd2_11 bg2_12 nx2_13 ft2_14 fb, bLaw g lo lc lz2_21 ll lm lg ld fc2_22]) := hD
      exact mret_z hx hb hr hlocks hS (Nat.le_of_ble_eq_true rfl) (Nat.le_of_ble_eq_true rfl) dX2_readDeeper_77 (kd2_11, bg2_12, nx2_13, ft2_14, lz2_21, fc2_22, (1 : Int32)) rfl (by decide) (show (0 ≤ lz2_21.toInt ∧ lz2_21.toInt ≤ 400) ∧ (-1 ≤ ft2_14.toInt) ∧ (0 ≤ nx2_13.toInt ∧ nx2_13.toInt ≤ 400) ∧ (0 ≤ bg2_12.toInt ∧ bg2_12.toInt ≤ 400) ∧ (zKd kd2_11.toInt bg2_12.toInt nx2_13.toInt) ∧ (1 = 0 ∨ 1 = 1) from ⟨hq24, hq18_1, hq18_2, hq18_3, hq18_4, (by decide)⟩) hP hD
  · skip
    refine lv_if_eq (tgt := 48) hx hb dX2_readDeeper_9 (by decide) (fun c25 => absurd c25 (by decide)) (fun _ => ?_)
    refine lv_aload_n hx hb dX2_readDeeper_12 rfl (lv_at hl 0 rfl) ?_
    refine lv_iload_n hx hb dX2_readDeeper_13 rfl (lv_at hl 1 rfl) ?_
    refine mcallV' (g := g) (q0 := 0) (ci := 2) (As := [.int 5]) (rest := []) St hK hT hA hP hD hS hl.1 [0, 2, 1] [] rfl rfl rfl (c_lt_readCondition5 l g lt ta lo ab sz ln kd2_1 bg2_2 nx2_3 ft fb lc lz ll lm lg ld fc b_lz hln hq5_0 hq5_1 hq5_2 hft) (cwV 1 hts (zgL (zl4 k324 k325 k326 k309) k316) rfl rfl rfl (by decide +kernel) ⟨Nat.le_of_ble_eq_true rfl, Nat.le_of_ble_eq_true rfl⟩) rfl rfl rfl rfl (Nat.le_of_ble_eq_true rfl) dX2_readDeeper_14 ⟨(Nat.le_of_ble_eq_true rfl), (Nat.le_of_ble_eq_true rfl)⟩ (fun u_ H locs hq33 hP hD hS => ?_)
    obtain ⟨kd2_26, bg2_27, nx2_28, ft2_29, lz2_30, fc2_31, q_32⟩ := u_
    replace hq33 : (0 ≤ lz2_30.toInt ∧ lz2_30.toInt ≤ 400) ∧ (-1 ≤ ft2_29.toInt) ∧ (0 ≤ nx2_28.toInt ∧ nx2_28.toInt ≤ 400) ∧ (0 ≤ bg2_27.toInt ∧ bg2_27.toInt ≤ 400) ∧ (zKd kd2_26.toInt bg2_27.toInt nx2_28.toInt) ∧ (q_32 = 0 ∨ q_32 = 1) := hq33
    have hP : va_P g.1 vwCl (List.flatten [bLT g lt ta lo, bTape g ta ab sz ln kd2_26 bg2_27 nx2_28 ft2_29 fb, bLaw g lo lc lz2_30 ll lm lg ld fc2_31]) H := hP
    have hD : va_D A (List.flatten [bLT g lt ta lo, bTape g ta ab sz ln kd2_26 bg2_27 nx2_28 ft2_29 fb, bLaw g lo lc lz2_30 ll lm lg ld fc2_31]) := hD
    refine W.widen (k := 0) (n := 0) (Nat.le_of_ble_eq_true rfl) (Nat.le_of_ble_eq_true rfl) ?_
    refine W.eq (g2 := F0 m 17 ls [.int q_32]) rfl ?_
    obtain ⟨hq33_0, hq33_1, hq33_2, hq33_3, hq33_4, hq33_5⟩ := hq33
    rcases hq33_5 with rfl | rfl
    · skip
      refine lv_if_eq (tgt := 46) hx hb dX2_readDeeper_17 (by decide) (fun _ => ?_) (fun c34 => absurd (by decide) c34)
      refine lv_iconst (v := 0) hx hb dX2_readDeeper_46 (by decide) ?_
      have hP : va_P g.1 vwCl (List.flatten [bLT g lt ta lo, bTape g ta ab sz ln kd2_26 bg2_27 nx2_28 ft2_29 fb, bLaw g lo lc lz2_30 ll lm lg ld fc2_31]) H := hP
      have hD : va_D A (List.flatten [bLT g lt ta lo, bTape g ta ab sz ln kd2_26 bg2_27 nx2_28 ft2_29 fb, bLaw g lo lc lz2_30 ll lm lg ld fc2_31]) := hD
      exact mret_z hx hb hr hlocks hS (Nat.le_of_ble_eq_true rfl) (Nat.le_of_ble_eq_true rfl) dX2_readDeeper_47 (kd2_26, bg2_27, nx2_28, ft2_29, lz2_30, fc2_31, (0 : Int32)) rfl (by decide) (show (0 ≤ lz2_30.toInt ∧ lz2_30.toInt ≤ 400) ∧ (-1 ≤ ft2_29.toInt) ∧ (0 ≤ nx2_28.toInt ∧ nx2_28.toInt ≤ 400) ∧ (0 ≤ bg2_27.toInt ∧ bg2_27.toInt ≤ 400) ∧ (zKd kd2_26.toInt bg2_27.toInt nx2_28.toInt) ∧ (0 = 0 ∨ 0 = 1) from ⟨hq33_0, hq33_1, hq33_2, hq33_3, hq33_4, (by decide)⟩) hP hD
    · skip
      refine lv_if_eq (tgt := 46) hx hb dX2_readDeeper_17 (by decide) (fun c35 => absurd c35 (by decide)) (fun _ => ?_)
      refine lv_aload_n hx hb dX2_readDeeper_20 rfl (lv_at hl 0 rfl) ?_
      refine va_get (D := g.1) (ci := 2) (v := .ref ta) (C := RX2) (T := TX2) (N := 2) hx hb hts izRX2 hown hK hP 0 rfl rfl 0 (by decide) (hts _ k290) (fun x9 h9 => u_same (hts _ k291) x9 h9) rfl dX2_readDeeper_21 ?_
      refine lv_bipush (v := 41) hx hb dX2_readDeeper_24 (by decide) ?_
      refine mcallV' (g := g) (q0 := 0) (ci := 6) (As := [.int 41]) (rest := []) St hK hT hA hP hD hS hl.1 [1] [0, 2] rfl rfl rfl (c_t_takeSign l g ta ab sz ln kd2_26 bg2_27 nx2_28 ft2_29 fb 41 hln hq33_2 hq33_3 hq33_4 hq33_1) (cwV 1 hts (zgL (zl4 k300 k301 k302 k277) k286) rfl rfl rfl (by decide +kernel) ⟨Nat.le_of_ble_eq_true rfl, Nat.le_of_ble_eq_true rfl⟩) rfl rfl rfl rfl (Nat.le_of_ble_eq_true rfl) dX2_readDeeper_26 ⟨(Nat.le_of_ble_eq_true rfl), (Nat.le_of_ble_eq_true rfl)⟩ (fun u_ H locs hq40 hP hD hS => ?_)
      obtain ⟨kd2_36, bg2_37, nx2_38, q_39⟩ := u_
      replace hq40 : (0 ≤ nx2_38.toInt ∧ nx2_38.toInt ≤ 400) ∧ (0 ≤ bg2_37.toInt ∧ bg2_37.toInt ≤ 400) ∧ (zKd kd2_36.toInt bg2_37.toInt nx2_38.toInt) ∧ (q_39 = 0 ∨ q_39 = 1) := hq40
      have hP : va_P g.1 vwCl (List.flatten [bLT g lt ta lo, bLaw g lo lc lz2_30 ll lm lg ld fc2_31, bTape g ta ab sz ln kd2_36 bg2_37 nx2_38 ft2_29 fb]) H := hP
      have hD : va_D A (List.flatten [bLT g lt ta lo, bLaw g lo lc lz2_30 ll lm lg ld fc2_31, bTape g ta ab sz ln kd2_36 bg2_37 nx2_38 ft2_29 fb]) := hD
      refine W.widen (k := 0) (n := 0) (Nat.le_of_ble_eq_true rfl) (Nat.le_of_ble_eq_true rfl) ?_
      refine W.eq (g2 := F0 m 29 ls [.int q_39]) rfl ?_
      obtain ⟨hq40_0, hq40_1, hq40_2, hq40_3⟩ := hq40
      rcases hq40_3 with rfl | rfl
      · skip
        refine lv_if_ne (tgt := 42) hx hb dX2_readDeeper_29 (by decide) (fun c41 => absurd (by decide) c41) (fun _ => ?_)
        refine lv_aload_n hx hb dX2_readDeeper_32 rfl (lv_at hl 0 rfl) ?_
        refine va_get (D := g.1) (ci := 2) (v := .ref ta) (C := RX2) (T := TX2) (N := 2) hx hb hts izRX2 hown hK hP 0 rfl rfl 0 (by decide) (hts _ k290) (fun x9 h9 => u_same (hts _ k291) x9 h9) rfl dX2_readDeeper_33 ?_
        refine mcallV' (g := g) (q0 := 0) (ci := 6) (As := []) (rest := []) St hK hT hA hP hD hS hl.1 [2] [0, 1] rfl rfl rfl (c_t_refuse l g ta ab sz ln kd2_36 bg2_37 nx2_38 ft2_29 fb hln hq40_0 hq40_1 hq40_2 hq33_1) (cwV 0 hts (zgL (zl4 k303 k279 k280 k277) k269) rfl rfl rfl (by decide +kernel) ⟨Nat.le_of_ble_eq_true rfl, Nat.le_of_ble_eq_true rfl⟩) rfl rfl rfl rfl (Nat.le_of_ble_eq_true rfl) dX2_readDeeper_36 ⟨(Nat.le_of_ble_eq_true rfl), (Nat.le_of_ble_eq_true rfl)⟩ (fun ft2_42 H locs hq43 hP hD hS => ?_)
        replace hq43 : (-1 ≤ ft2_42.toInt) := hq43
        have hP : va_P g.1 vwCl (List.flatten [bLT g lt ta lo, bLaw g lo lc lz2_30 ll lm lg ld fc2_31, bTape g ta ab sz ln kd2_36 bg2_37 nx2_38 ft2_42 fb]) H := hP
        have hD : va_D A (List.flatten [bLT g lt ta lo, bLaw g lo lc lz2_30 ll lm lg ld fc2_31, bTape g ta ab sz ln kd2_36 bg2_37 nx2_38 ft2_42 fb]) := hD
        refine W.widen (k := 0) (n := 0) (Nat.le_of_ble_eq_true rfl) (Nat.le_of_ble_eq_true rfl) ?_
        refine W.eq (g2 := F0 m 39 ls [.int 0]) rfl ?_
        refine lv_if_eq (tgt := 46) hx hb dX2_readDeeper_39 (by decide) (fun _ => ?_) (fun c44 => absurd (by decide) c44)
        refine lv_iconst (v := 0) hx hb dX2_readDeeper_46 (by decide) ?_
        have hP : va_P g.1 vwCl (List.flatten [bLT g lt ta lo, bLaw g lo lc lz2_30 ll lm lg ld fc2_31, bTape g ta ab sz ln kd2_36 bg2_37 nx2_38 ft2_42 fb]) H := hP
        have hD : va_D A (List.flatten [bLT g lt ta lo, bLaw g lo lc lz2_30 ll lm lg ld fc2_31, bTape g ta ab sz ln kd2_36 bg2_37 nx2_38 ft2_42 fb]) := hD
        obtain ⟨hP, hD⟩ := zord (g := g) (Bs' := [bLT g lt ta lo, bTape g ta ab sz ln kd2_36 bg2_37 nx2_38 ft2_42 fb, bLaw g lo lc lz2_30 ll lm lg ld fc2_31]) [0, 2, 1] rfl rfl hP hD
        exact mret_z hx hb hr hlocks hS (Nat.le_of_ble_eq_true rfl) (Nat.le_of_ble_eq_true rfl) dX2_readDeeper_47 (kd2_36, bg2_37, nx2_38, ft2_42, lz2_30, fc2_31, (0 : Int32)) rfl (by decide) (show (0 ≤ lz2_30.toInt ∧ lz2_30.toInt ≤ 400) ∧ (-1 ≤ ft2_42.toInt) ∧ (0 ≤ nx2_38.toInt ∧ nx2_38.toInt ≤ 400) ∧ (0 ≤ bg2_37.toInt ∧ bg2_37.toInt ≤ 400) ∧ (zKd kd2_36.toInt bg2_37.toInt nx2_38.toInt) ∧ (0 = 0 ∨ 0 = 1) from ⟨hq33_0, hq43, hq40_0, hq40_1, hq40_2, (by decide)⟩) hP hD
      · skip
        refine lv_if_ne (tgt := 42) hx hb dX2_readDeeper_29 (by decide) (fun _ => ?_) (fun c45 => absurd c45 (by decide))
        refine lv_iconst (v := 1) hx hb dX2_readDeeper_42 (by decide) ?_
        refine lv_goto (tgt := 47) hx hb dX2_readDeeper_43 (by decide) ?_
        have hP : va_P g.1 vwCl (List.flatten [bLT g lt ta lo, bLaw g lo lc lz2_30 ll lm lg ld fc2_31, bTape g ta ab sz ln kd2_36 bg2_37 nx2_38 ft2_29 fb]) H := hP
        have hD : va_D A (List.flatten [bLT g lt ta lo, bLaw g lo lc lz2_30 ll lm lg ld fc2_31, bTape g ta ab sz ln kd2_36 bg2_37 nx2_38 ft2_29 fb]) := hD
        obtain ⟨hP, hD⟩ := zord (g := g) (Bs' := [bLT g lt ta lo, bTape g ta ab sz ln kd2_36 bg2_37 nx2_38 ft2_29 fb, bLaw g lo lc lz2_30 ll lm lg ld fc2_31]) [0, 2, 1] rfl rfl hP hD
        exact mret_z hx hb hr hlocks hS (Nat.le_of_ble_eq_true rfl) (Nat.le_of_ble_eq_true rfl) dX2_readDeeper_47 (kd2_36, bg2_37, nx2_38, ft2_29, lz2_30, fc2_31, (1 : Int32)) rfl (by decide) (show (0 ≤ lz2_30.toInt ∧ lz2_30.toInt ≤ 400) ∧ (-1 ≤ ft2_29.toInt) ∧ (0 ≤ nx2_38.toInt ∧ nx2_38.toInt ≤ 400) ∧ (0 ≤ bg2_37.toInt ∧ bg2_37.toInt ≤ 400) ∧ (zKd kd2_36.toInt bg2_37.toInt nx2_38.toInt) ∧ (1 = 0 ∨ 1 = 1) from ⟨hq33_0, hq33_1, hq40_0, hq40_1, hq40_2, (by decide)⟩) hP hD
