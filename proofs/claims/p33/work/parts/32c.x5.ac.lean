set_option maxRecDepth 100000 in
set_option maxHeartbeats 4000000 in
theorem c_lt_readDeeper4F (l : Launch) (g : zG) (lt : Nat) (ta : Nat) (lo : Nat) (ab : Nat) (sz : Int32) (ln : Int32) (kd : Int32) (bg : Int32) (nx : Int32) (fb : Nat → Int32) (lc : Nat) (lz : Int32) (ll : Int32) (lm : Int32) (lg : Int32) (ld : Int32) (fc : Nat → Int32) (b_lz : 0 ≤ lz.toInt ∧ lz.toInt ≤ 400) (hln : 0 ≤ ln.toInt ∧ ln.toInt ≤ 400) (hnx : 0 ≤ nx.toInt ∧ nx.toInt ≤ 400) (hbg : 0 ≤ bg.toInt ∧ bg.toInt ≤ 400) (hkd : zKd kd.toInt bg.toInt nx.toInt) (hTk : zTk fb ln.toInt kd.toInt bg.toInt nx.toInt) : zM' g l yX2_readDeeper (Cond.code yX2_readDeeper cX2_readDeeper 2 (some .boolean) :: zB) ({ frames := 14, cells := 0, slots := 0, locals := 310 } : Room) [.ref lt, .int 4] [bLT g lt ta lo, bTape g ta ab sz ln kd bg nx (-1) fb, bLaw g lo lc lz ll lm lg ld fc] (fun u : Int32 × Int32 × Int32 × Int32 × Int32 × (Nat → Int32) × Int32 => (fun (kd2 : Int32) (bg2 : Int32) (nx2 : Int32) (ft2 : Int32) (lz2 : Int32) (fc2 : Nat → Int32) (q : Int32) => some (.int q)) (u.1) (u.2.1) (u.2.2.1) (u.2.2.2.1) (u.2.2.2.2.1) (u.2.2.2.2.2.1) (u.2.2.2.2.2.2)) (fun u : Int32 × Int32 × Int32 × Int32 × Int32 × (Nat → Int32) × Int32 => (fun (kd2 : Int32) (bg2 : Int32) (nx2 : Int32) (ft2 : Int32) (lz2 : Int32) (fc2 : Nat → Int32) (q : Int32) => (0 ≤ lz2.toInt ∧ lz2.toInt ≤ 400) ∧ (-1 ≤ ft2.toInt) ∧ (0 ≤ nx2.toInt ∧ nx2.toInt ≤ 400) ∧ (0 ≤ bg2.toInt ∧ bg2.toInt ≤ 400) ∧ (zKd kd2.toInt bg2.toInt nx2.toInt) ∧ (zTk fb ln.toInt kd2.toInt bg2.toInt nx2.toInt) ∧ (q = 1 ∧ zDpr fb ln.toInt 2 bg.toInt (.ok bg2.toInt) ∧ (-1) = ft2 ∨ q = 0 ∧ zDpr fb ln.toInt 2 bg.toInt (.bad ft2.toInt))) (u.1) (u.2.1) (u.2.2.1) (u.2.2.2.1) (u.2.2.2.2.1) (u.2.2.2.2.2.1) (u.2.2.2.2.2.2)) (fun u : Int32 × Int32 × Int32 × Int32 × Int32 × (Nat → Int32) × Int32 => (fun (kd2 : Int32) (bg2 : Int32) (nx2 : Int32) (ft2 : Int32) (lz2 : Int32) (fc2 : Nat → Int32) (q : Int32) => [bLT g lt ta lo, bTape g ta ab sz ln kd2 bg2 nx2 ft2 fb, bLaw g lo lc lz2 ll lm lg ld fc2]) (u.1) (u.2.1) (u.2.2.1) (u.2.2.2.1) (u.2.2.2.2.1) (u.2.2.2.2.2.1) (u.2.2.2.2.2.2)) := by
  refine zM'.of (cc := cX2_readDeeper) (maxL := 2) (rt := (some .boolean)) (by decide) rfl (Nat.le_of_ble_eq_true rfl) ?_
  intro p e s m args below meth c A ls St hr hlocks hin hK hT hA hP hD hS hl
  obtain ⟨hx, hb, hml, hown, hts⟩ := id St
  have hl : lv_has ls 2 [(0, .ref lt), (1, .int 4)] := hl
  refine lv_aload_n hx hb dX2_readDeeper_0 rfl (lv_at hl 0 rfl) ?_
  refine va_get (D := g.1) (ci := 2) (v := .ref ta) (C := RX2) (T := TX2) (N := 2) hx hb hts izRX2 hown hK hP 0 rfl rfl 0 (by decide) (hts _ k290) (fun x9 h9 => u_same (hts _ k291) x9 h9) rfl dX2_readDeeper_1 ?_
  refine lv_bipush (v := 40) hx hb dX2_readDeeper_4 (by decide) ?_
  have hL40 : (40 : Int32).toInt = 40 := by decide
  refine mcallV' (g := g) (q0 := 0) (ci := 6) (As := [.int 40]) (rest := []) St hK hT hA hP hD hS hl.1 [1] [0, 2] rfl rfl rfl (c_t_takeSignF l g ta ab sz ln kd bg nx (-1) fb 40 hln hnx hbg hkd hTk) (cwV 1 hts (zgL (zl4 k300 k301 k302 k277) k286) rfl rfl rfl (by decide +kernel) ⟨Nat.le_of_ble_eq_true rfl, Nat.le_of_ble_eq_true rfl⟩) rfl rfl rfl rfl (Nat.le_of_ble_eq_true rfl) dX2_readDeeper_6 ⟨(Nat.le_of_ble_eq_true rfl), (Nat.le_of_ble_eq_true rfl)⟩ (fun u_ H locs hq5 hP hD hS => ?_)
  obtain ⟨kd2_1, bg2_2, nx2_3, q_4⟩ := u_
  replace hq5 : (0 ≤ nx2_3.toInt ∧ nx2_3.toInt ≤ 400) ∧ (0 ≤ bg2_2.toInt ∧ bg2_2.toInt ≤ 400) ∧ (zKd kd2_1.toInt bg2_2.toInt nx2_3.toInt) ∧ (zTk fb ln.toInt kd2_1.toInt bg2_2.toInt nx2_3.toInt) ∧ (q_4 = 1 ∧ zisS fb ln.toInt bg.toInt (40 : Int32).toInt ∧ zMv fb ln.toInt bg.toInt bg2_2.toInt ∨ q_4 = 0 ∧ ¬ zisS fb ln.toInt bg.toInt (40 : Int32).toInt ∧ kd = kd2_1 ∧ bg = bg2_2 ∧ nx = nx2_3) := hq5
  have hP : va_P g.1 vwCl (List.flatten [bLT g lt ta lo, bLaw g lo lc lz ll lm lg ld fc, bTape g ta ab sz ln kd2_1 bg2_2 nx2_3 (-1) fb]) H := hP
  have hD : va_D A (List.flatten [bLT g lt ta lo, bLaw g lo lc lz ll lm lg ld fc, bTape g ta ab sz ln kd2_1 bg2_2 nx2_3 (-1) fb]) := hD
  refine W.widen (k := 0) (n := 0) (Nat.le_of_ble_eq_true rfl) (Nat.le_of_ble_eq_true rfl) ?_
  refine W.eq (g2 := F0 m 9 ls [.int q_4]) rfl ?_
  obtain ⟨hq5_0, hq5_1, hq5_2, hq5_3, hq5_4⟩ := hq5
  rcases hq5_4 with ⟨rfl, hq5_k, hq5_km⟩ | ⟨rfl, hq5_k, rfl, rfl, rfl⟩
  · skip
    refine lv_if_eq (tgt := 48) hx hb dX2_readDeeper_9 (by decide) (fun c6 => absurd c6 (by decide)) (fun _ => ?_)
    refine lv_aload_n hx hb dX2_readDeeper_12 rfl (lv_at hl 0 rfl) ?_
    refine lv_iload_n hx hb dX2_readDeeper_13 rfl (lv_at hl 1 rfl) ?_
    refine mcallV' (g := g) (q0 := 0) (ci := 2) (As := [.int 4]) (rest := []) St hK hT hA hP hD hS hl.1 [0, 2, 1] [] rfl rfl rfl (c_lt_readCondition4F l g lt ta lo ab sz ln kd2_1 bg2_2 nx2_3 fb lc lz ll lm lg ld fc b_lz hln hq5_0 hq5_1 hq5_2 hq5_3) (cwV 1 hts (zgL (zl4 k324 k325 k326 k309) k316) rfl rfl rfl (by decide +kernel) ⟨Nat.le_of_ble_eq_true rfl, Nat.le_of_ble_eq_true rfl⟩) rfl rfl rfl rfl (Nat.le_of_ble_eq_true rfl) dX2_readDeeper_14 ⟨(Nat.le_of_ble_eq_true rfl), (Nat.le_of_ble_eq_true rfl)⟩ (fun u_ H locs hq14 hP hD hS => ?_)
    obtain ⟨kd2_7, bg2_8, nx2_9, ft2_10, lz2_11, fc2_12, q_13⟩ := u_
    replace hq14 : (0 ≤ lz2_11.toInt ∧ lz2_11.toInt ≤ 400) ∧ (-1 ≤ ft2_10.toInt) ∧ (0 ≤ nx2_9.toInt ∧ nx2_9.toInt ≤ 400) ∧ (0 ≤ bg2_8.toInt ∧ bg2_8.toInt ≤ 400) ∧ (zKd kd2_7.toInt bg2_8.toInt nx2_9.toInt) ∧ (zTk fb ln.toInt kd2_7.toInt bg2_8.toInt nx2_9.toInt) ∧ (q_13 = 1 ∧ zCond fb ln.toInt (zAtom fb ln.toInt 2) bg2_2.toInt (.ok bg2_8.toInt) ∧ (-1) = ft2_10 ∨ q_13 = 0 ∧ zCond fb ln.toInt (zAtom fb ln.toInt 2) bg2_2.toInt (.bad ft2_10.toInt)) := hq14
    have hP : va_P g.1 vwCl (List.flatten [bLT g lt ta lo, bTape g ta ab sz ln kd2_7 bg2_8 nx2_9 ft2_10 fb, bLaw g lo lc lz2_11 ll lm lg ld fc2_12]) H := hP
    have hD : va_D A (List.flatten [bLT g lt ta lo, bTape g ta ab sz ln kd2_7 bg2_8 nx2_9 ft2_10 fb, bLaw g lo lc lz2_11 ll lm lg ld fc2_12]) := hD
    refine W.widen (k := 0) (n := 0) (Nat.le_of_ble_eq_true rfl) (Nat.le_of_ble_eq_true rfl) ?_
    refine W.eq (g2 := F0 m 17 ls [.int q_13]) rfl ?_
    obtain ⟨hq14_0, hq14_1, hq14_2, hq14_3, hq14_4, hq14_5, hq14_6⟩ := hq14
    rcases hq14_6 with ⟨rfl, hq14_k, rfl⟩ | ⟨rfl, hq14_k⟩
    · skip
      refine lv_if_eq (tgt := 46) hx hb dX2_readDeeper_17 (by decide) (fun c15 => absurd c15 (by decide)) (fun _ => ?_)
      refine lv_aload_n hx hb dX2_readDeeper_20 rfl (lv_at hl 0 rfl) ?_
      refine va_get (D := g.1) (ci := 2) (v := .ref ta) (C := RX2) (T := TX2) (N := 2) hx hb hts izRX2 hown hK hP 0 rfl rfl 0 (by decide) (hts _ k290) (fun x9 h9 => u_same (hts _ k291) x9 h9) rfl dX2_readDeeper_21 ?_
      refine lv_bipush (v := 41) hx hb dX2_readDeeper_24 (by decide) ?_
      have hL41 : (41 : Int32).toInt = 41 := by decide
      refine mcallV' (g := g) (q0 := 0) (ci := 6) (As := [.int 41]) (rest := []) St hK hT hA hP hD hS hl.1 [1] [0, 2] rfl rfl rfl (c_t_takeSignF l g ta ab sz ln kd2_7 bg2_8 nx2_9 (-1) fb 41 hln hq14_2 hq14_3 hq14_4 hq14_5) (cwV 1 hts (zgL (zl4 k300 k301 k302 k277) k286) rfl rfl rfl (by decide +kernel) ⟨Nat.le_of_ble_eq_true rfl, Nat.le_of_ble_eq_true rfl⟩) rfl rfl rfl rfl (Nat.le_of_ble_eq_true rfl) dX2_readDeeper_26 ⟨(Nat.le_of_ble_eq_true rfl), (Nat.le_of_ble_eq_true rfl)⟩ (fun u_ H locs hq20 hP hD hS => ?_)
      obtain ⟨kd2_16, bg2_17, nx2_18, q_19⟩ := u_
      replace hq20 : (0 ≤ nx2_18.toInt ∧ nx2_18.toInt ≤ 400) ∧ (0 ≤ bg2_17.toInt ∧ bg2_17.toInt ≤ 400) ∧ (zKd kd2_16.toInt bg2_17.toInt nx2_18.toInt) ∧ (zTk fb ln.toInt kd2_16.toInt bg2_17.toInt nx2_18.toInt) ∧ (q_19 = 1 ∧ zisS fb ln.toInt bg2_8.toInt (41 : Int32).toInt ∧ zMv fb ln.toInt bg2_8.toInt bg2_17.toInt ∨ q_19 = 0 ∧ ¬ zisS fb ln.toInt bg2_8.toInt (41 : Int32).toInt ∧ kd2_7 = kd2_16 ∧ bg2_8 = bg2_17 ∧ nx2_9 = nx2_18) := hq20
      have hP : va_P g.1 vwCl (List.flatten [bLT g lt ta lo, bLaw g lo lc lz2_11 ll lm lg ld fc2_12, bTape g ta ab sz ln kd2_16 bg2_17 nx2_18 (-1) fb]) H := hP
      have hD : va_D A (List.flatten [bLT g lt ta lo, bLaw g lo lc lz2_11 ll lm lg ld fc2_12, bTape g ta ab sz ln kd2_16 bg2_17 nx2_18 (-1) fb]) := hD
      refine W.widen (k := 0) (n := 0) (Nat.le_of_ble_eq_true rfl) (Nat.le_of_ble_eq_true rfl) ?_
      refine W.eq (g2 := F0 m 29 ls [.int q_19]) rfl ?_
      obtain ⟨hq20_0, hq20_1, hq20_2, hq20_3, hq20_4⟩ := hq20
      rcases hq20_4 with ⟨rfl, hq20_k, hq20_km⟩ | ⟨rfl, hq20_k, rfl, rfl, rfl⟩
      · skip
        refine lv_if_ne (tgt := 42) hx hb dX2_readDeeper_29 (by decide) (fun _ => ?_) (fun c21 => absurd c21 (by decide))
        refine lv_iconst (v := 1) hx hb dX2_readDeeper_42 (by decide) ?_
        refine lv_goto (tgt := 47) hx hb dX2_readDeeper_43 (by decide) ?_
        have hP : va_P g.1 vwCl (List.flatten [bLT g lt ta lo, bLaw g lo lc lz2_11 ll lm lg ld fc2_12, bTape g ta ab sz ln kd2_16 bg2_17 nx2_18 (-1) fb]) H := hP
        have hD : va_D A (List.flatten [bLT g lt ta lo, bLaw g lo lc lz2_11 ll lm lg ld fc2_12, bTape g ta ab sz ln kd2_16 bg2_17 nx2_18 (-1) fb]) := hD
        obtain ⟨hP, hD⟩ := zord (g := g) (Bs' := [bLT g lt ta lo, bTape g ta ab sz ln kd2_16 bg2_17 nx2_18 (-1) fb, bLaw g lo lc lz2_11 ll lm lg ld fc2_12]) [0, 2, 1] rfl rfl hP hD
        exact mret_z hx hb hr hlocks hS (Nat.le_of_ble_eq_true rfl) (Nat.le_of_ble_eq_true rfl) dX2_readDeeper_47 (kd2_16, bg2_17, nx2_18, -1, lz2_11, fc2_12, (1 : Int32)) rfl (by decide) (show (0 ≤ lz2_11.toInt ∧ lz2_11.toInt ≤ 400) ∧ (-1 ≤ ((-1) : Int32).toInt) ∧ (0 ≤ nx2_18.toInt ∧ nx2_18.toInt ≤ 400) ∧ (0 ≤ bg2_17.toInt ∧ bg2_17.toInt ≤ 400) ∧ (zKd kd2_16.toInt bg2_17.toInt nx2_18.toInt) ∧ (zTk fb ln.toInt kd2_16.toInt bg2_17.toInt nx2_18.toInt) ∧ (1 = 1 ∧ zDpr fb ln.toInt 2 bg.toInt (.ok bg2_17.toInt) ∧ (-1) = (-1) ∨ 1 = 0 ∧ zDpr fb ln.toInt 2 bg.toInt (.bad ((-1) : Int32).toInt)) from ⟨(by first | assumption | omega | exact Or.inl (by decide) | exact Or.inr (by omega)), (by decide), (by first | assumption | omega | exact Or.inl (by decide) | exact Or.inr (by omega)), (by first | assumption | omega | exact Or.inl (by decide) | exact Or.inr (by omega)), (by first | assumption | omega | exact Or.inl (by decide) | exact Or.inr (by omega)), (by assumption), (Or.inl ⟨rfl, zDp_p hq5_k hq5_km (zPar_shut hq14_k hq20_k hq20_km), rfl⟩)⟩) hP hD
      · skip
        refine lv_if_ne (tgt := 42) hx hb dX2_readDeeper_29 (by decide) (fun c22 => absurd (by decide) c22) (fun _ => ?_)
        refine lv_aload_n hx hb dX2_readDeeper_32 rfl (lv_at hl 0 rfl) ?_
        refine va_get (D := g.1) (ci := 2) (v := .ref ta) (C := RX2) (T := TX2) (N := 2) hx hb hts izRX2 hown hK hP 0 rfl rfl 0 (by decide) (hts _ k290) (fun x9 h9 => u_same (hts _ k291) x9 h9) rfl dX2_readDeeper_33 ?_
        refine mcallV' (g := g) (q0 := 0) (ci := 6) (As := []) (rest := []) St hK hT hA hP hD hS hl.1 [2] [0, 1] rfl rfl rfl (c_t_refuseF l g ta ab sz ln kd2_7 bg2_8 nx2_9 fb ) (cwV 0 hts (zgL (zl4 k303 k279 k280 k277) k269) rfl rfl rfl (by decide +kernel) ⟨Nat.le_of_ble_eq_true rfl, Nat.le_of_ble_eq_true rfl⟩) rfl rfl rfl rfl (Nat.le_of_ble_eq_true rfl) dX2_readDeeper_36 ⟨(Nat.le_of_ble_eq_true rfl), (Nat.le_of_ble_eq_true rfl)⟩ (fun _u H locs hq23 hP hD hS => ?_)
        have hP : va_P g.1 vwCl (List.flatten [bLT g lt ta lo, bLaw g lo lc lz2_11 ll lm lg ld fc2_12, bTape g ta ab sz ln kd2_7 bg2_8 nx2_9 bg2_8 fb]) H := hP
        have hD : va_D A (List.flatten [bLT g lt ta lo, bLaw g lo lc lz2_11 ll lm lg ld fc2_12, bTape g ta ab sz ln kd2_7 bg2_8 nx2_9 bg2_8 fb]) := hD
        refine W.widen (k := 0) (n := 0) (Nat.le_of_ble_eq_true rfl) (Nat.le_of_ble_eq_true rfl) ?_
        refine W.eq (g2 := F0 m 39 ls [.int 0]) rfl ?_
        refine lv_if_eq (tgt := 46) hx hb dX2_readDeeper_39 (by decide) (fun _ => ?_) (fun c24 => absurd (by decide) c24)
        refine lv_iconst (v := 0) hx hb dX2_readDeeper_46 (by decide) ?_
        have hP : va_P g.1 vwCl (List.flatten [bLT g lt ta lo, bLaw g lo lc lz2_11 ll lm lg ld fc2_12, bTape g ta ab sz ln kd2_7 bg2_8 nx2_9 bg2_8 fb]) H := hP
        have hD : va_D A (List.flatten [bLT g lt ta lo, bLaw g lo lc lz2_11 ll lm lg ld fc2_12, bTape g ta ab sz ln kd2_7 bg2_8 nx2_9 bg2_8 fb]) := hD
        obtain ⟨hP, hD⟩ := zord (g := g) (Bs' := [bLT g lt ta lo, bTape g ta ab sz ln kd2_7 bg2_8 nx2_9 bg2_8 fb, bLaw g lo lc lz2_11 ll lm lg ld fc2_12]) [0, 2, 1] rfl rfl hP hD
        exact mret_z hx hb hr hlocks hS (Nat.le_of_ble_eq_true rfl) (Nat.le_of_ble_eq_true rfl) dX2_readDeeper_47 (kd2_7, bg2_8, nx2_9, bg2_8, lz2_11, fc2_12, (0 : Int32)) rfl (by decide) (show (0 ≤ lz2_11.toInt ∧ lz2_11.toInt ≤ 400) ∧ (-1 ≤ bg2_8.toInt) ∧ (0 ≤ nx2_9.toInt ∧ nx2_9.toInt ≤ 400) ∧ (0 ≤ bg2_8.toInt ∧ bg2_8.toInt ≤ 400) ∧ (zKd kd2_7.toInt bg2_8.toInt nx2_9.toInt) ∧ (zTk fb ln.toInt kd2_7.toInt bg2_8.toInt nx2_9.toInt) ∧ (0 = 1 ∧ zDpr fb ln.toInt 2 bg.toInt (.ok bg2_8.toInt) ∧ (-1) = bg2_8 ∨ 0 = 0 ∧ zDpr fb ln.toInt 2 bg.toInt (.bad bg2_8.toInt)) from ⟨(by first | assumption | omega | exact Or.inl (by decide) | exact Or.inr (by omega)), (by first | decide | omega), (by first | assumption | omega | exact Or.inl (by decide) | exact Or.inr (by omega)), (by first | assumption | omega | exact Or.inl (by decide) | exact Or.inr (by omega)), (by first | assumption | omega | exact Or.inl (by decide) | exact Or.inr (by omega)), (by assumption), (Or.inr ⟨rfl, zDp_p hq5_k hq5_km (.open_ hq14_k hq20_k)⟩)⟩) hP hD
    · skip
      refine lv_if_eq (tgt := 46) hx hb dX2_readDeeper_17 (by decide) (fun _ => ?_) (fun c25 => absurd (by decide) c25)
      refine lv_iconst (v := 0) hx hb dX2_readDeeper_46 (by decide) ?_
      have hP : va_P g.1 vwCl (List.flatten [bLT g lt ta lo, bTape g ta ab sz ln kd2_7 bg2_8 nx2_9 ft2_10 fb, bLaw g lo lc lz2_11 ll lm lg ld fc2_12]) H := hP
      have hD : va_D A (List.flatten [bLT g lt ta lo, bTape g ta ab sz ln kd2_7 bg2_8 nx2_9 ft2_10 fb, bLaw g lo lc lz2_11 ll lm lg ld fc2_12]) := hD
      exact mret_z hx hb hr hlocks hS (Nat.le_of_ble_eq_true rfl) (Nat.le_of_ble_eq_true rfl) dX2_readDeeper_47 (kd2_7, bg2_8, nx2_9, ft2_10, lz2_11, fc2_12, (0 : Int32)) rfl (by decide) (show (0 ≤ lz2_11.toInt ∧ lz2_11.toInt ≤ 400) ∧ (-1 ≤ ft2_10.toInt) ∧ (0 ≤ nx2_9.toInt ∧ nx2_9.toInt ≤ 400) ∧ (0 ≤ bg2_8.toInt ∧ bg2_8.toInt ≤ 400) ∧ (zKd kd2_7.toInt bg2_8.toInt nx2_9.toInt) ∧ (zTk fb ln.toInt kd2_7.toInt bg2_8.toInt nx2_9.toInt) ∧ (0 = 1 ∧ zDpr fb ln.toInt 2 bg.toInt (.ok bg2_8.toInt) ∧ (-1) = ft2_10 ∨ 0 = 0 ∧ zDpr fb ln.toInt 2 bg.toInt (.bad ft2_10.toInt)) from ⟨(by first | assumption | omega | exact Or.inl (by decide) | exact Or.inr (by omega)), (by first | decide | omega), (by first | assumption | omega | exact Or.inl (by decide) | exact Or.inr (by omega)), (by first | assumption | omega | exact Or.inl (by decide) | exact Or.inr (by omega)), (by first | assumption | omega | exact Or.inl (by decide) | exact Or.inr (by omega)), (by assumption), (Or.inr ⟨rfl, zDp_p hq5_k hq5_km (.wrong hq14_k)⟩)⟩) hP hD
  · skip
    refine lv_if_eq (tgt := 48) hx hb dX2_readDeeper_9 (by decide) (fun _ => ?_) (fun c26 => absurd (by decide) c26)
    refine lv_aload_n hx hb dX2_readDeeper_48 rfl (lv_at hl 0 rfl) ?_
    refine va_get (D := g.1) (ci := 2) (v := .ref ta) (C := RX2) (T := TX2) (N := 2) hx hb hts izRX2 hown hK hP 0 rfl rfl 0 (by decide) (hts _ k290) (fun x9 h9 => u_same (hts _ k291) x9 h9) rfl dX2_readDeeper_49 ?_
    refine mcallV' (g := g) (q0 := 0) (ci := 6) (As := []) (rest := []) St hK hT hA hP hD hS hl.1 [2] [0, 1] rfl rfl rfl (c_t_stepF l g ta ab sz ln kd bg nx (-1) fb hln hnx) (cwV 0 hts (zgL (zl4 k296 k275 k276 k277) k271) rfl rfl rfl (by decide +kernel) ⟨Nat.le_of_ble_eq_true rfl, Nat.le_of_ble_eq_true rfl⟩) rfl rfl rfl rfl (Nat.le_of_ble_eq_true rfl) dX2_readDeeper_52 ⟨(Nat.le_of_ble_eq_true rfl), (Nat.le_of_ble_eq_true rfl)⟩ (fun u_ H locs hq30 hP hD hS => ?_)
    obtain ⟨kd2_27, bg2_28, nx2_29⟩ := u_
    replace hq30 : (0 ≤ nx2_29.toInt ∧ nx2_29.toInt ≤ 400) ∧ (0 ≤ bg2_28.toInt ∧ bg2_28.toInt ≤ 400) ∧ (zKd kd2_27.toInt bg2_28.toInt nx2_29.toInt) ∧ (zSk fb ln.toInt nx.toInt bg2_28.toInt) ∧ (zTk fb ln.toInt kd2_27.toInt bg2_28.toInt nx2_29.toInt) := hq30
    have hP : va_P g.1 vwCl (List.flatten [bLT g lt ta lo, bLaw g lo lc lz ll lm lg ld fc, bTape g ta ab sz ln kd2_27 bg2_28 nx2_29 (-1) fb]) H := hP
    have hD : va_D A (List.flatten [bLT g lt ta lo, bLaw g lo lc lz ll lm lg ld fc, bTape g ta ab sz ln kd2_27 bg2_28 nx2_29 (-1) fb]) := hD
    refine W.widen (k := 0) (n := 0) (Nat.le_of_ble_eq_true rfl) (Nat.le_of_ble_eq_true rfl) ?_
    refine W.eq (g2 := F0 m 55 ls []) rfl ?_
    obtain ⟨hq30_0, hq30_1, hq30_2, hq30_3, hq30_4⟩ := hq30
    refine lv_aload_n hx hb dX2_readDeeper_55 rfl (lv_at hl 0 rfl) ?_
    refine lv_iload_n hx hb dX2_readDeeper_56 rfl (lv_at hl 1 rfl) ?_
    refine mcallV' (g := g) (q0 := 0) (ci := 2) (As := [.int 4]) (rest := []) St hK hT hA hP hD hS hl.1 [0, 2, 1] [] rfl rfl rfl (c_lt_readAtom4F l g lt ta lo ab sz ln kd2_27 bg2_28 nx2_29 fb lc lz ll lm lg ld fc b_lz hln hq30_0 hq30_1 hq30_2 hq30_4) (cwV 1 hts (zgL (zl4 k317 k318 k319 k309) k327) rfl rfl rfl (by decide +kernel) ⟨Nat.le_of_ble_eq_true rfl, Nat.le_of_ble_eq_true rfl⟩) rfl rfl rfl rfl (Nat.le_of_ble_eq_true rfl) dX2_readDeeper_57 ⟨(Nat.le_of_ble_eq_true rfl), (Nat.le_of_ble_eq_true rfl)⟩ (fun u_ H locs hq38 hP hD hS => ?_)
    obtain ⟨kd2_31, bg2_32, nx2_33, ft2_34, lz2_35, fc2_36, q_37⟩ := u_
    replace hq38 : (0 ≤ lz2_35.toInt ∧ lz2_35.toInt ≤ 400) ∧ (-1 ≤ ft2_34.toInt) ∧ (0 ≤ nx2_33.toInt ∧ nx2_33.toInt ≤ 400) ∧ (0 ≤ bg2_32.toInt ∧ bg2_32.toInt ≤ 400) ∧ (zKd kd2_31.toInt bg2_32.toInt nx2_33.toInt) ∧ (zTk fb ln.toInt kd2_31.toInt bg2_32.toInt nx2_33.toInt) ∧ (q_37 = 1 ∧ zAtom fb ln.toInt 2 bg2_28.toInt (.ok bg2_32.toInt) ∧ (-1) = ft2_34 ∨ q_37 = 0 ∧ zAtom fb ln.toInt 2 bg2_28.toInt (.bad ft2_34.toInt)) := hq38
    have hP : va_P g.1 vwCl (List.flatten [bLT g lt ta lo, bTape g ta ab sz ln kd2_31 bg2_32 nx2_33 ft2_34 fb, bLaw g lo lc lz2_35 ll lm lg ld fc2_36]) H := hP
    have hD : va_D A (List.flatten [bLT g lt ta lo, bTape g ta ab sz ln kd2_31 bg2_32 nx2_33 ft2_34 fb, bLaw g lo lc lz2_35 ll lm lg ld fc2_36]) := hD
    refine W.widen (k := 0) (n := 0) (Nat.le_of_ble_eq_true rfl) (Nat.le_of_ble_eq_true rfl) ?_
    refine W.eq (g2 := F0 m 60 ls [.int q_37]) rfl ?_
    obtain ⟨hq38_0, hq38_1, hq38_2, hq38_3, hq38_4, hq38_5, hq38_6⟩ := hq38
    rcases hq38_6 with ⟨rfl, hq38_k, rfl⟩ | ⟨rfl, hq38_k⟩
    · skip
      refine lv_if_ne (tgt := 65) hx hb dX2_readDeeper_60 (by decide) (fun _ => ?_) (fun c39 => absurd c39 (by decide))
      refine lv_aload_n hx hb dX2_readDeeper_65 rfl (lv_at hl 0 rfl) ?_
      refine va_get (D := g.1) (ci := 2) (v := .ref lo) (C := RX2) (T := TX2) (N := 2) hx hb hts izRX2 hown hK hP 0 rfl rfl 1 (by decide) (hts _ k210) (fun _ h9 => h9) rfl dX2_readDeeper_66 ?_
      refine lv_bipush (v := 12) hx hb dX2_readDeeper_69 (by decide) ?_
      refine lv_iconst (v := 0) hx hb dX2_readDeeper_71 (by decide) ?_
      refine mcallV' (g := g) (q0 := 0) (ci := 1) (As := [.int 12, .int 0]) (rest := []) St hK hT hA hP hD hS hl.1 [2] [0, 1] rfl rfl rfl (c_l_put l g lo lc lz2_35 ll lm lg ld fc2_36 12 0 hq38_0) (cwV 2 hts (zgL (zl4 k297 k298 k299 k85) k202) rfl rfl rfl (by decide +kernel) ⟨Nat.le_of_ble_eq_true rfl, Nat.le_of_ble_eq_true rfl⟩) rfl rfl rfl rfl (Nat.le_of_ble_eq_true rfl) dX2_readDeeper_72 ⟨(Nat.le_of_ble_eq_true rfl), (Nat.le_of_ble_eq_true rfl)⟩ (fun u_ H locs hq43 hP hD hS => ?_)
      obtain ⟨lz2_40, fc2_41, q_42⟩ := u_
      replace hq43 : (0 ≤ lz2_40.toInt ∧ lz2_40.toInt ≤ 400) := hq43
      have hP : va_P g.1 vwCl (List.flatten [bLT g lt ta lo, bTape g ta ab sz ln kd2_31 bg2_32 nx2_33 (-1) fb, bLaw g lo lc lz2_40 ll lm lg ld fc2_41]) H := hP
      have hD : va_D A (List.flatten [bLT g lt ta lo, bTape g ta ab sz ln kd2_31 bg2_32 nx2_33 (-1) fb, bLaw g lo lc lz2_40 ll lm lg ld fc2_41]) := hD
      refine W.widen (k := 0) (n := 0) (Nat.le_of_ble_eq_true rfl) (Nat.le_of_ble_eq_true rfl) ?_
      refine W.eq (g2 := F0 m 75 ls [.int q_42]) rfl ?_
      refine lv_pop hx hb dX2_readDeeper_75 rfl ?_
      refine lv_iconst (v := 1) hx hb dX2_readDeeper_76 (by decide) ?_
      have hP : va_P g.1 vwCl (List.flatten [bLT g lt ta lo, bTape g ta ab sz ln kd2_31 bg2_32 nx2_33 (-1) fb, bLaw g lo lc lz2_40 ll lm lg ld fc2_41]) H := hP
      have hD : va_D A (List.flatten [bLT g lt ta lo, bTape g ta ab sz ln kd2_31 bg2_32 nx2_33 (-1) fb, bLaw g lo lc lz2_40 ll lm lg ld fc2_41]) := hD
      exact mret_z hx hb hr hlocks hS (Nat.le_of_ble_eq_true rfl) (Nat.le_of_ble_eq_true rfl) dX2_readDeeper_77 (kd2_31, bg2_32, nx2_33, -1, lz2_40, fc2_41, (1 : Int32)) rfl (by decide) (show (0 ≤ lz2_40.toInt ∧ lz2_40.toInt ≤ 400) ∧ (-1 ≤ ((-1) : Int32).toInt) ∧ (0 ≤ nx2_33.toInt ∧ nx2_33.toInt ≤ 400) ∧ (0 ≤ bg2_32.toInt ∧ bg2_32.toInt ≤ 400) ∧ (zKd kd2_31.toInt bg2_32.toInt nx2_33.toInt) ∧ (zTk fb ln.toInt kd2_31.toInt bg2_32.toInt nx2_33.toInt) ∧ (1 = 1 ∧ zDpr fb ln.toInt 2 bg.toInt (.ok bg2_32.toInt) ∧ (-1) = (-1) ∨ 1 = 0 ∧ zDpr fb ln.toInt 2 bg.toInt (.bad ((-1) : Int32).toInt)) from ⟨(by first | assumption | omega | exact Or.inl (by decide) | exact Or.inr (by omega)), (by decide), (by first | assumption | omega | exact Or.inl (by decide) | exact Or.inr (by omega)), (by first | assumption | omega | exact Or.inl (by decide) | exact Or.inr (by omega)), (by first | assumption | omega | exact Or.inl (by decide) | exact Or.inr (by omega)), (by assumption), (Or.inl ⟨rfl, zDp_n hq5_k (zMv_mk hTk hq30_3) hq38_k, rfl⟩)⟩) hP hD
    · skip
      refine lv_if_ne (tgt := 65) hx hb dX2_readDeeper_60 (by decide) (fun c44 => absurd (by decide) c44) (fun _ => ?_)
      refine lv_iconst (v := 0) hx hb dX2_readDeeper_63 (by decide) ?_
      have hP : va_P g.1 vwCl (List.flatten [bLT g lt ta lo, bTape g ta ab sz ln kd2_31 bg2_32 nx2_33 ft2_34 fb, bLaw g lo lc lz2_35 ll lm lg ld fc2_36]) H := hP
      have hD : va_D A (List.flatten [bLT g lt ta lo, bTape g ta ab sz ln kd2_31 bg2_32 nx2_33 ft2_34 fb, bLaw g lo lc lz2_35 ll lm lg ld fc2_36]) := hD
      exact mret_z hx hb hr hlocks hS (Nat.le_of_ble_eq_true rfl) (Nat.le_of_ble_eq_true rfl) dX2_readDeeper_64 (kd2_31, bg2_32, nx2_33, ft2_34, lz2_35, fc2_36, (0 : Int32)) rfl (by decide) (show (0 ≤ lz2_35.toInt ∧ lz2_35.toInt ≤ 400) ∧ (-1 ≤ ft2_34.toInt) ∧ (0 ≤ nx2_33.toInt ∧ nx2_33.toInt ≤ 400) ∧ (0 ≤ bg2_32.toInt ∧ bg2_32.toInt ≤ 400) ∧ (zKd kd2_31.toInt bg2_32.toInt nx2_33.toInt) ∧ (zTk fb ln.toInt kd2_31.toInt bg2_32.toInt nx2_33.toInt) ∧ (0 = 1 ∧ zDpr fb ln.toInt 2 bg.toInt (.ok bg2_32.toInt) ∧ (-1) = ft2_34 ∨ 0 = 0 ∧ zDpr fb ln.toInt 2 bg.toInt (.bad ft2_34.toInt)) from ⟨(by first | assumption | omega | exact Or.inl (by decide) | exact Or.inr (by omega)), (by first | decide | omega), (by first | assumption | omega | exact Or.inl (by decide) | exact Or.inr (by omega)), (by first | assumption | omega | exact Or.inl (by decide) | exact Or.inr (by omega)), (by first | assumption | omega | exact Or.inl (by decide) | exact Or.inr (by omega)), (by assumption), (Or.inr ⟨rfl, zDp_n hq5_k (zMv_mk hTk hq30_3) hq38_k⟩)⟩) hP hD
set_option maxRecDepth 100000 in
set_option maxHeartbeats 4000000 in
theorem c_lt_readAtom3F (l : Launch) (g : zG) (lt : Nat) (ta : Nat) (lo : Nat) (ab : Nat) (sz : Int32) (ln : Int32) (kd : Int32) (bg : Int32) (nx : Int32) (fb : Nat → Int32) (lc : Nat) (lz : Int32) (ll : Int32) (lm : Int32) (lg : Int32) (ld : Int32) (fc : Nat → Int32) (b_lz : 0 ≤ lz.toInt ∧ lz.toInt ≤ 400) (hln : 0 ≤ ln.toInt ∧ ln.toInt ≤ 400) (hnx : 0 ≤ nx.toInt ∧ nx.toInt ≤ 400) (hbg : 0 ≤ bg.toInt ∧ bg.toInt ≤ 400) (hkd : zKd kd.toInt bg.toInt nx.toInt) (hTk : zTk fb ln.toInt kd.toInt bg.toInt nx.toInt) : zM' g l yX2_readAtom (Cond.code yX2_readAtom cX2_readAtom 3 (some .boolean) :: zB) ({ frames := 15, cells := 0, slots := 0, locals := 331 } : Room) [.ref lt, .int 3] [bLT g lt ta lo, bTape g ta ab sz ln kd bg nx (-1) fb, bLaw g lo lc lz ll lm lg ld fc] (fun u : Int32 × Int32 × Int32 × Int32 × Int32 × (Nat → Int32) × Int32 => (fun (kd2 : Int32) (bg2 : Int32) (nx2 : Int32) (ft2 : Int32) (lz2 : Int32) (fc2 : Nat → Int32) (q : Int32) => some (.int q)) (u.1) (u.2.1) (u.2.2.1) (u.2.2.2.1) (u.2.2.2.2.1) (u.2.2.2.2.2.1) (u.2.2.2.2.2.2)) (fun u : Int32 × Int32 × Int32 × Int32 × Int32 × (Nat → Int32) × Int32 => (fun (kd2 : Int32) (bg2 : Int32) (nx2 : Int32) (ft2 : Int32) (lz2 : Int32) (fc2 : Nat → Int32) (q : Int32) => (0 ≤ lz2.toInt ∧ lz2.toInt ≤ 400) ∧ (-1 ≤ ft2.toInt) ∧ (0 ≤ nx2.toInt ∧ nx2.toInt ≤ 400) ∧ (0 ≤ bg2.toInt ∧ bg2.toInt ≤ 400) ∧ (zKd kd2.toInt bg2.toInt nx2.toInt) ∧ (zTk fb ln.toInt kd2.toInt bg2.toInt nx2.toInt) ∧ (q = 1 ∧ zAtom fb ln.toInt 3 bg.toInt (.ok bg2.toInt) ∧ (-1) = ft2 ∨ q = 0 ∧ zAtom fb ln.toInt 3 bg.toInt (.bad ft2.toInt))) (u.1) (u.2.1) (u.2.2.1) (u.2.2.2.1) (u.2.2.2.2.1) (u.2.2.2.2.2.1) (u.2.2.2.2.2.2)) (fun u : Int32 × Int32 × Int32 × Int32 × Int32 × (Nat → Int32) × Int32 => (fun (kd2 : Int32) (bg2 : Int32) (nx2 : Int32) (ft2 : Int32) (lz2 : Int32) (fc2 : Nat → Int32) (q : Int32) => [bLT g lt ta lo, bTape g ta ab sz ln kd2 bg2 nx2 ft2 fb, bLaw g lo lc lz2 ll lm lg ld fc2]) (u.1) (u.2.1) (u.2.2.1) (u.2.2.2.1) (u.2.2.2.2.1) (u.2.2.2.2.2.1) (u.2.2.2.2.2.2)) := by
  refine zM'.of (cc := cX2_readAtom) (maxL := 3) (rt := (some .boolean)) (by decide) rfl (Nat.le_of_ble_eq_true rfl) ?_
  intro p e s m args below meth c A ls St hr hlocks hin hK hT hA hP hD hS hl
  obtain ⟨hx, hb, hml, hown, hts⟩ := id St
  have hl : lv_has ls 3 [(0, .ref lt), (1, .int 3)] := hl
  refine lv_aload_n hx hb dX2_readAtom_0 rfl (lv_at hl 0 rfl) ?_
  refine va_get (D := g.1) (ci := 2) (v := .ref ta) (C := RX2) (T := TX2) (N := 2) hx hb hts izRX2 hown hK hP 0 rfl rfl 0 (by decide) (hts _ k290) (fun x9 h9 => u_same (hts _ k291) x9 h9) rfl dX2_readAtom_1 ?_
  refine va_ldcS (q := g.2 20) hx hb hown (zra5 hT.2.1) dX2_readAtom_4 ?_
  refine mcallV' (g := g) (q0 := 0) (ci := 6) (As := [.ref (g.2 20)]) (rest := []) St hK hT hA hP hD hS hl.1 [1] [0, 2] rfl rfl rfl (c_t_isWordF l g ta ab sz ln kd bg nx (-1) fb (g.2 20) 5 zqa5 hln hnx hbg hkd hTk rfl zla5 zna5 (zlitB zla5)) (cwV 1 hts (zgL (zl4 k292 k282 k283 k277) k268) rfl rfl rfl (by decide +kernel) ⟨Nat.le_of_ble_eq_true rfl, Nat.le_of_ble_eq_true rfl⟩) rfl rfl rfl rfl (Nat.le_of_ble_eq_true rfl) dX2_readAtom_6 ⟨(Nat.le_of_ble_eq_true rfl), (Nat.le_of_ble_eq_true rfl)⟩ (fun r_1 H locs hq2 hP hD hS => ?_)
  replace hq2 : (r_1 = 1 ∧ zisW fb ln.toInt bg.toInt zqa5.2.2.2 ∨ r_1 = 0 ∧ ¬ zisW fb ln.toInt bg.toInt zqa5.2.2.2) := hq2
  have hP : va_P g.1 vwCl (List.flatten [bLT g lt ta lo, bLaw g lo lc lz ll lm lg ld fc, bTape g ta ab sz ln kd bg nx (-1) fb]) H := hP
  have hD : va_D A (List.flatten [bLT g lt ta lo, bLaw g lo lc lz ll lm lg ld fc, bTape g ta ab sz ln kd bg nx (-1) fb]) := hD
  refine W.widen (k := 0) (n := 0) (Nat.le_of_ble_eq_true rfl) (Nat.le_of_ble_eq_true rfl) ?_
  refine W.eq (g2 := F0 m 9 ls [.int r_1]) rfl ?_
  rcases hq2 with ⟨rfl, hq2_k⟩ | ⟨rfl, hq2_k⟩
  · skip
    refine lv_if_ne (tgt := 24) hx hb dX2_readAtom_9 (by decide) (fun _ => ?_) (fun c3 => absurd c3 (by decide))
    refine lv_iload_n hx hb dX2_readAtom_24 rfl (lv_at hl 1 rfl) ?_
    refine lv_bipush (v := 6) hx hb dX2_readAtom_25 (by decide) ?_
    refine lv_icmp_ge (tgt := 40) hx hb dX2_readAtom_27 (by decide) (fun c4 => absurd c4 (by decide)) (fun _ => ?_)
    refine lv_aload_n hx hb dX2_readAtom_30 rfl (lv_at hl 0 rfl) ?_
    refine lv_iload_n hx hb dX2_readAtom_31 rfl (lv_at hl 1 rfl) ?_
    refine lv_iconst (v := 1) hx hb dX2_readAtom_32 (by decide) ?_
    refine lv_iadd hx hb dX2_readAtom_33 ?_
    refine ztop (r := 4) (by decide) ?_
    refine mcallV' (g := g) (q0 := 0) (ci := 2) (As := [.int 4]) (rest := []) St hK hT hA hP hD hS hl.1 [0, 2, 1] [] rfl rfl rfl (c_lt_readDeeper4F l g lt ta lo ab sz ln kd bg nx fb lc lz ll lm lg ld fc b_lz hln hnx hbg hkd hTk) (cwV 1 hts (zgL (zl4 k306 k307 k308 k309) k323) rfl rfl rfl (by decide +kernel) ⟨Nat.le_of_ble_eq_true rfl, Nat.le_of_ble_eq_true rfl⟩) rfl rfl rfl rfl (Nat.le_of_ble_eq_true rfl) dX2_readAtom_34 ⟨(Nat.le_of_ble_eq_true rfl), (Nat.le_of_ble_eq_true rfl)⟩ (fun u_ H locs hq12 hP hD hS => ?_)
    obtain ⟨kd2_5, bg2_6, nx2_7, ft2_8, lz2_9, fc2_10, q_11⟩ := u_
    replace hq12 : (0 ≤ lz2_9.toInt ∧ lz2_9.toInt ≤ 400) ∧ (-1 ≤ ft2_8.toInt) ∧ (0 ≤ nx2_7.toInt ∧ nx2_7.toInt ≤ 400) ∧ (0 ≤ bg2_6.toInt ∧ bg2_6.toInt ≤ 400) ∧ (zKd kd2_5.toInt bg2_6.toInt nx2_7.toInt) ∧ (zTk fb ln.toInt kd2_5.toInt bg2_6.toInt nx2_7.toInt) ∧ (q_11 = 1 ∧ zDpr fb ln.toInt 2 bg.toInt (.ok bg2_6.toInt) ∧ (-1) = ft2_8 ∨ q_11 = 0 ∧ zDpr fb ln.toInt 2 bg.toInt (.bad ft2_8.toInt)) := hq12
    have hP : va_P g.1 vwCl (List.flatten [bLT g lt ta lo, bTape g ta ab sz ln kd2_5 bg2_6 nx2_7 ft2_8 fb, bLaw g lo lc lz2_9 ll lm lg ld fc2_10]) H := hP
    have hD : va_D A (List.flatten [bLT g lt ta lo, bTape g ta ab sz ln kd2_5 bg2_6 nx2_7 ft2_8 fb, bLaw g lo lc lz2_9 ll lm lg ld fc2_10]) := hD
    refine W.widen (k := 0) (n := 0) (Nat.le_of_ble_eq_true rfl) (Nat.le_of_ble_eq_true rfl) ?_
    refine W.eq (g2 := F0 m 37 ls [.int q_11]) rfl ?_
    obtain ⟨hq12_0, hq12_1, hq12_2, hq12_3, hq12_4, hq12_5, hq12_6⟩ := hq12
    rcases hq12_6 with ⟨rfl, hq12_k, rfl⟩ | ⟨rfl, hq12_k⟩
    · skip
      refine lv_goto (tgt := 47) hx hb dX2_readAtom_37 (by decide) ?_
      have hP : va_P g.1 vwCl (List.flatten [bLT g lt ta lo, bTape g ta ab sz ln kd2_5 bg2_6 nx2_7 (-1) fb, bLaw g lo lc lz2_9 ll lm lg ld fc2_10]) H := hP
      have hD : va_D A (List.flatten [bLT g lt ta lo, bTape g ta ab sz ln kd2_5 bg2_6 nx2_7 (-1) fb, bLaw g lo lc lz2_9 ll lm lg ld fc2_10]) := hD
      exact mret_z hx hb hr hlocks hS (Nat.le_of_ble_eq_true rfl) (Nat.le_of_ble_eq_true rfl) dX2_readAtom_47 (kd2_5, bg2_6, nx2_7, -1, lz2_9, fc2_10, (1 : Int32)) rfl (by decide) (show (0 ≤ lz2_9.toInt ∧ lz2_9.toInt ≤ 400) ∧ (-1 ≤ ((-1) : Int32).toInt) ∧ (0 ≤ nx2_7.toInt ∧ nx2_7.toInt ≤ 400) ∧ (0 ≤ bg2_6.toInt ∧ bg2_6.toInt ≤ 400) ∧ (zKd kd2_5.toInt bg2_6.toInt nx2_7.toInt) ∧ (zTk fb ln.toInt kd2_5.toInt bg2_6.toInt nx2_7.toInt) ∧ (1 = 1 ∧ zAtom fb ln.toInt 3 bg.toInt (.ok bg2_6.toInt) ∧ (-1) = (-1) ∨ 1 = 0 ∧ zAtom fb ln.toInt 3 bg.toInt (.bad ((-1) : Int32).toInt)) from ⟨(by first | assumption | omega | exact Or.inl (by decide) | exact Or.inr (by omega)), (by decide), (by first | assumption | omega | exact Or.inl (by decide) | exact Or.inr (by omega)), (by first | assumption | omega | exact Or.inl (by decide) | exact Or.inr (by omega)), (by first | assumption | omega | exact Or.inl (by decide) | exact Or.inr (by omega)), (by assumption), (Or.inl ⟨rfl, zAt_s (Or.inl hq2_k) hq12_k, rfl⟩)⟩) hP hD
    · skip
      refine lv_goto (tgt := 47) hx hb dX2_readAtom_37 (by decide) ?_
      have hP : va_P g.1 vwCl (List.flatten [bLT g lt ta lo, bTape g ta ab sz ln kd2_5 bg2_6 nx2_7 ft2_8 fb, bLaw g lo lc lz2_9 ll lm lg ld fc2_10]) H := hP
      have hD : va_D A (List.flatten [bLT g lt ta lo, bTape g ta ab sz ln kd2_5 bg2_6 nx2_7 ft2_8 fb, bLaw g lo lc lz2_9 ll lm lg ld fc2_10]) := hD
      exact mret_z hx hb hr hlocks hS (Nat.le_of_ble_eq_true rfl) (Nat.le_of_ble_eq_true rfl) dX2_readAtom_47 (kd2_5, bg2_6, nx2_7, ft2_8, lz2_9, fc2_10, (0 : Int32)) rfl (by decide) (show (0 ≤ lz2_9.toInt ∧ lz2_9.toInt ≤ 400) ∧ (-1 ≤ ft2_8.toInt) ∧ (0 ≤ nx2_7.toInt ∧ nx2_7.toInt ≤ 400) ∧ (0 ≤ bg2_6.toInt ∧ bg2_6.toInt ≤ 400) ∧ (zKd kd2_5.toInt bg2_6.toInt nx2_7.toInt) ∧ (zTk fb ln.toInt kd2_5.toInt bg2_6.toInt nx2_7.toInt) ∧ (0 = 1 ∧ zAtom fb ln.toInt 3 bg.toInt (.ok bg2_6.toInt) ∧ (-1) = ft2_8 ∨ 0 = 0 ∧ zAtom fb ln.toInt 3 bg.toInt (.bad ft2_8.toInt)) from ⟨(by first | assumption | omega | exact Or.inl (by decide) | exact Or.inr (by omega)), (by first | decide | omega), (by first | assumption | omega | exact Or.inl (by decide) | exact Or.inr (by omega)), (by first | assumption | omega | exact Or.inl (by decide) | exact Or.inr (by omega)), (by first | assumption | omega | exact Or.inl (by decide) | exact Or.inr (by omega)), (by assumption), (Or.inr ⟨rfl, zAt_s (Or.inl hq2_k) hq12_k⟩)⟩) hP hD
  · skip
    refine lv_if_ne (tgt := 24) hx hb dX2_readAtom_9 (by decide) (fun c13 => absurd (by decide) c13) (fun _ => ?_)
    refine lv_aload_n hx hb dX2_readAtom_12 rfl (lv_at hl 0 rfl) ?_
    refine va_get (D := g.1) (ci := 2) (v := .ref ta) (C := RX2) (T := TX2) (N := 2) hx hb hts izRX2 hown hK hP 0 rfl rfl 0 (by decide) (hts _ k290) (fun x9 h9 => u_same (hts _ k291) x9 h9) rfl dX2_readAtom_13 ?_
    refine lv_bipush (v := 40) hx hb dX2_readAtom_16 (by decide) ?_
    have hL40 : (40 : Int32).toInt = 40 := by decide
    refine mcallV' (g := g) (q0 := 0) (ci := 6) (As := [.int 40]) (rest := []) St hK hT hA hP hD hS hl.1 [2] [0, 1] rfl rfl rfl (c_t_isSignF l g ta ab sz ln kd bg nx (-1) fb 40 hln hnx hbg hkd hTk) (cwV 1 hts (zgL (zl4 k305 k288 k289 k277) k285) rfl rfl rfl (by decide +kernel) ⟨Nat.le_of_ble_eq_true rfl, Nat.le_of_ble_eq_true rfl⟩) rfl rfl rfl rfl (Nat.le_of_ble_eq_true rfl) dX2_readAtom_18 ⟨(Nat.le_of_ble_eq_true rfl), (Nat.le_of_ble_eq_true rfl)⟩ (fun q_14 H locs hq15 hP hD hS => ?_)
    replace hq15 : (q_14 = 1 ∧ zisS fb ln.toInt bg.toInt (40 : Int32).toInt ∨ q_14 = 0 ∧ ¬ zisS fb ln.toInt bg.toInt (40 : Int32).toInt) := hq15
    have hP : va_P g.1 vwCl (List.flatten [bLT g lt ta lo, bLaw g lo lc lz ll lm lg ld fc, bTape g ta ab sz ln kd bg nx (-1) fb]) H := hP
    have hD : va_D A (List.flatten [bLT g lt ta lo, bLaw g lo lc lz ll lm lg ld fc, bTape g ta ab sz ln kd bg nx (-1) fb]) := hD
    refine W.widen (k := 0) (n := 0) (Nat.le_of_ble_eq_true rfl) (Nat.le_of_ble_eq_true rfl) ?_
    refine W.eq (g2 := F0 m 21 ls [.int q_14]) rfl ?_
    rcases hq15 with ⟨rfl, hq15_k⟩ | ⟨rfl, hq15_k⟩
    · skip
      refine lv_if_eq (tgt := 48) hx hb dX2_readAtom_21 (by decide) (fun c16 => absurd c16 (by decide)) (fun _ => ?_)
      refine lv_iload_n hx hb dX2_readAtom_24 rfl (lv_at hl 1 rfl) ?_
      refine lv_bipush (v := 6) hx hb dX2_readAtom_25 (by decide) ?_
      refine lv_icmp_ge (tgt := 40) hx hb dX2_readAtom_27 (by decide) (fun c17 => absurd c17 (by decide)) (fun _ => ?_)
      refine lv_aload_n hx hb dX2_readAtom_30 rfl (lv_at hl 0 rfl) ?_
      refine lv_iload_n hx hb dX2_readAtom_31 rfl (lv_at hl 1 rfl) ?_
      refine lv_iconst (v := 1) hx hb dX2_readAtom_32 (by decide) ?_
      refine lv_iadd hx hb dX2_readAtom_33 ?_
      refine ztop (r := 4) (by decide) ?_
      refine mcallV' (g := g) (q0 := 0) (ci := 2) (As := [.int 4]) (rest := []) St hK hT hA hP hD hS hl.1 [0, 2, 1] [] rfl rfl rfl (c_lt_readDeeper4F l g lt ta lo ab sz ln kd bg nx fb lc lz ll lm lg ld fc b_lz hln hnx hbg hkd hTk) (cwV 1 hts (zgL (zl4 k306 k307 k308 k309) k323) rfl rfl rfl (by decide +kernel) ⟨Nat.le_of_ble_eq_true rfl, Nat.le_of_ble_eq_true rfl⟩) rfl rfl rfl rfl (Nat.le_of_ble_eq_true rfl) dX2_readAtom_34 ⟨(Nat.le_of_ble_eq_true rfl), (Nat.le_of_ble_eq_true rfl)⟩ (fun u_ H locs hq25 hP hD hS => ?_)
      obtain ⟨kd2_18, bg2_19, nx2_20, ft2_21, lz2_22, fc2_23, q_24⟩ := u_
      replace hq25 : (0 ≤ lz2_22.toInt ∧ lz2_22.toInt ≤ 400) ∧ (-1 ≤ ft2_21.toInt) ∧ (0 ≤ nx2_20.toInt ∧ nx2_20.toInt ≤ 400) ∧ (0 ≤ bg2_19.toInt ∧ bg2_19.toInt ≤ 400) ∧ (zKd kd2_18.toInt bg2_19.toInt nx2_20.toInt) ∧ (zTk fb ln.toInt kd2_18.toInt bg2_19.toInt nx2_20.toInt) ∧ (q_24 = 1 ∧ zDpr fb ln.toInt 2 bg.toInt (.ok bg2_19.toInt) ∧ (-1) = ft2_21 ∨ q_24 = 0 ∧ zDpr fb ln.toInt 2 bg.toInt (.bad ft2_21.toInt)) := hq25
      have hP : va_P g.1 vwCl (List.flatten [bLT g lt ta lo, bTape g ta ab sz ln kd2_18 bg2_19 nx2_20 ft2_21 fb, bLaw g lo lc lz2_22 ll lm lg ld fc2_23]) H := hP
      have hD : va_D A (List.flatten [bLT g lt ta lo, bTape g ta ab sz ln kd2_18 bg2_19 nx2_20 ft2_21 fb, bLaw g lo lc lz2_22 ll lm lg ld fc2_23]) := hD
      refine W.widen (k := 0) (n := 0) (Nat.le_of_ble_eq_true rfl) (Nat.le_of_ble_eq_true rfl) ?_
      refine W.eq (g2 := F0 m 37 ls [.int q_24]) rfl ?_
      obtain ⟨hq25_0, hq25_1, hq25_2, hq25_3, hq25_4, hq25_5, hq25_6⟩ := hq25
      rcases hq25_6 with ⟨rfl, hq25_k, rfl⟩ | ⟨rfl, hq25_k⟩
      · skip
        refine lv_goto (tgt := 47) hx hb dX2_readAtom_37 (by decide) ?_
        have hP : va_P g.1 vwCl (List.flatten [bLT g lt ta lo, bTape g ta ab sz ln kd2_18 bg2_19 nx2_20 (-1) fb, bLaw g lo lc lz2_22 ll lm lg ld fc2_23]) H := hP
        have hD : va_D A (List.flatten [bLT g lt ta lo, bTape g ta ab sz ln kd2_18 bg2_19 nx2_20 (-1) fb, bLaw g lo lc lz2_22 ll lm lg ld fc2_23]) := hD
        exact mret_z hx hb hr hlocks hS (Nat.le_of_ble_eq_true rfl) (Nat.le_of_ble_eq_true rfl) dX2_readAtom_47 (kd2_18, bg2_19, nx2_20, -1, lz2_22, fc2_23, (1 : Int32)) rfl (by decide) (show (0 ≤ lz2_22.toInt ∧ lz2_22.toInt ≤ 400) ∧ (-1 ≤ ((-1) : Int32).toInt) ∧ (0 ≤ nx2_20.toInt ∧ nx2_20.toInt ≤ 400) ∧ (0 ≤ bg2_19.toInt ∧ bg2_19.toInt ≤ 400) ∧ (zKd kd2_18.toInt bg2_19.toInt nx2_20.toInt) ∧ (zTk fb ln.toInt kd2_18.toInt bg2_19.toInt nx2_20.toInt) ∧ (1 = 1 ∧ zAtom fb ln.toInt 3 bg.toInt (.ok bg2_19.toInt) ∧ (-1) = (-1) ∨ 1 = 0 ∧ zAtom fb ln.toInt 3 bg.toInt (.bad ((-1) : Int32).toInt)) from ⟨(by first | assumption | omega | exact Or.inl (by decide) | exact Or.inr (by omega)), (by decide), (by first | assumption | omega | exact Or.inl (by decide) | exact Or.inr (by omega)), (by first | assumption | omega | exact Or.inl (by decide) | exact Or.inr (by omega)), (by first | assumption | omega | exact Or.inl (by decide) | exact Or.inr (by omega)), (by assumption), (Or.inl ⟨rfl, zAt_s (Or.inr hq15_k) hq25_k, rfl⟩)⟩) hP hD
      · skip
        refine lv_goto (tgt := 47) hx hb dX2_readAtom_37 (by decide) ?_
        have hP : va_P g.1 vwCl (List.flatten [bLT g lt ta lo, bTape g ta ab sz ln kd2_18 bg2_19 nx2_20 ft2_21 fb, bLaw g lo lc lz2_22 ll lm lg ld fc2_23]) H := hP
        have hD : va_D A (List.flatten [bLT g lt ta lo, bTape g ta ab sz ln kd2_18 bg2_19 nx2_20 ft2_21 fb, bLaw g lo lc lz2_22 ll lm lg ld fc2_23]) := hD
        exact mret_z hx hb hr hlocks hS (Nat.le_of_ble_eq_true rfl) (Nat.le_of_ble_eq_true rfl) dX2_readAtom_47 (kd2_18, bg2_19, nx2_20, ft2_21, lz2_22, fc2_23, (0 : Int32)) rfl (by decide) (show (0 ≤ lz2_22.toInt ∧ lz2_22.toInt ≤ 400) ∧ (-1 ≤ ft2_21.toInt) ∧ (0 ≤ nx2_20.toInt ∧ nx2_20.toInt ≤ 400) ∧ (0 ≤ bg2_19.toInt ∧ bg2_19.toInt ≤ 400) ∧ (zKd kd2_18.toInt bg2_19.toInt nx2_20.toInt) ∧ (zTk fb ln.toInt kd2_18.toInt bg2_19.toInt nx2_20.toInt) ∧ (0 = 1 ∧ zAtom fb ln.toInt 3 bg.toInt (.ok bg2_19.toInt) ∧ (-1) = ft2_21 ∨ 0 = 0 ∧ zAtom fb ln.toInt 3 bg.toInt (.bad ft2_21.toInt)) from ⟨(by first | assumption | omega | exact Or.inl (by decide) | exact Or.inr (by omega)), (by first | decide | omega), (by first | assumption | omega | exact Or.inl (by decide) | exact Or.inr (by omega)), (by first | assumption | omega | exact Or.inl (by decide) | exact Or.inr (by omega)), (by first | assumption | omega | exact Or.inl (by decide) | exact Or.inr (by omega)), (by assumption), (Or.inr ⟨rfl, zAt_s (Or.inr hq15_k) hq25_k⟩)⟩) hP hD
    · skip
      refine lv_if_eq (tgt := 48) hx hb dX2_readAtom_21 (by decide) (fun _ => ?_) (fun c26 => absurd (by decide) c26)
      refine lv_aload_n hx hb dX2_readAtom_48 rfl (lv_at hl 0 rfl) ?_
      refine va_get (D := g.1) (ci := 2) (v := .ref ta) (C := RX2) (T := TX2) (N := 2) hx hb hts izRX2 hown hK hP 0 rfl rfl 0 (by decide) (hts _ k290) (fun x9 h9 => u_same (hts _ k291) x9 h9) rfl dX2_readAtom_49 ?_
      refine va_ldcS (q := g.2 22) hx hb hown (zra6 hT.2.1) dX2_readAtom_52 ?_
      refine mcallV' (g := g) (q0 := 0) (ci := 6) (As := [.ref (g.2 22)]) (rest := []) St hK hT hA hP hD hS hl.1 [2] [0, 1] rfl rfl rfl (c_t_takeWordF l g ta ab sz ln kd bg nx (-1) fb (g.2 22) 6 zqa6 hln hnx hbg hkd hTk rfl zla6 zna6 (zlitB zla6)) (cwV 1 hts (zgL (zl4 k310 k311 k312 k277) k284) rfl rfl rfl (by decide +kernel) ⟨Nat.le_of_ble_eq_true rfl, Nat.le_of_ble_eq_true rfl⟩) rfl rfl rfl rfl (Nat.le_of_ble_eq_true rfl) dX2_readAtom_54 ⟨(Nat.le_of_ble_eq_true rfl), (Nat.le_of_ble_eq_true rfl)⟩ (fun u_ H locs hq31 hP hD hS => ?_)
      obtain ⟨kd2_27, bg2_28, nx2_29, r_30⟩ := u_
      replace hq31 : (0 ≤ nx2_29.toInt ∧ nx2_29.toInt ≤ 400) ∧ (0 ≤ bg2_28.toInt ∧ bg2_28.toInt ≤ 400) ∧ (zKd kd2_27.toInt bg2_28.toInt nx2_29.toInt) ∧ (zTk fb ln.toInt kd2_27.toInt bg2_28.toInt nx2_29.toInt) ∧ (r_30 = 1 ∧ zisW fb ln.toInt bg.toInt zqa6.2.2.2 ∧ zMv fb ln.toInt bg.toInt bg2_28.toInt ∨ r_30 = 0 ∧ ¬ zisW fb ln.toInt bg.toInt zqa6.2.2.2 ∧ kd = kd2_27 ∧ bg = bg2_28 ∧ nx = nx2_29) := hq31
      have hP : va_P g.1 vwCl (List.flatten [bLT g lt ta lo, bLaw g lo lc lz ll lm lg ld fc, bTape g ta ab sz ln kd2_27 bg2_28 nx2_29 (-1) fb]) H := hP
      have hD : va_D A (List.flatten [bLT g lt ta lo, bLaw g lo lc lz ll lm lg ld fc, bTape g ta ab sz ln kd2_27 bg2_28 nx2_29 (-1) fb]) := hD
      refine W.widen (k := 0) (n := 0) (Nat.le_of_ble_eq_true rfl) (Nat.le_of_ble_eq_true rfl) ?_
      refine W.eq (g2 := F0 m 57 ls [.int r_30]) rfl ?_
      obtain ⟨hq31_0, hq31_1, hq31_2, hq31_3, hq31_4⟩ := hq31
      rcases hq31_4 with ⟨rfl, hq31_k, hq31_km⟩ | ⟨rfl, hq31_k, rfl, rfl, rfl⟩
      · skip
        refine lv_if_eq (tgt := 73) hx hb dX2_readAtom_57 (by decide) (fun c32 => absurd c32 (by decide)) (fun _ => ?_)
        refine lv_aload_n hx hb dX2_readAtom_60 rfl (lv_at hl 0 rfl) ?_
        refine va_get (D := g.1) (ci := 2) (v := .ref lo) (C := RX2) (T := TX2) (N := 2) hx hb hts izRX2 hown hK hP 0 rfl rfl 1 (by decide) (hts _ k210) (fun _ h9 => h9) rfl dX2_readAtom_61 ?_
        refine lv_bipush (v := 10) hx hb dX2_readAtom_64 (by decide) ?_
        refine lv_iconst (v := 0) hx hb dX2_readAtom_66 (by decide) ?_
        refine mcallV' (g := g) (q0 := 0) (ci := 1) (As := [.int 10, .int 0]) (rest := []) St hK hT hA hP hD hS hl.1 [1] [0, 2] rfl rfl rfl (c_l_put l g lo lc lz ll lm lg ld fc 10 0 b_lz) (cwV 2 hts (zgL (zl4 k297 k298 k299 k85) k202) rfl rfl rfl (by decide +kernel) ⟨Nat.le_of_ble_eq_true rfl, Nat.le_of_ble_eq_true rfl⟩) rfl rfl rfl rfl (Nat.le_of_ble_eq_true rfl) dX2_readAtom_67 ⟨(Nat.le_of_ble_eq_true rfl), (Nat.le_of_ble_eq_true rfl)⟩ (fun u_ H locs hq36 hP hD hS => ?_)
        obtain ⟨lz2_33, fc2_34, q_35⟩ := u_
        replace hq36 : (0 ≤ lz2_33.toInt ∧ lz2_33.toInt ≤ 400) := hq36
        have hP : va_P g.1 vwCl (List.flatten [bLT g lt ta lo, bTape g ta ab sz ln kd2_27 bg2_28 nx2_29 (-1) fb, bLaw g lo lc lz2_33 ll lm lg ld fc2_34]) H := hP
        have hD : va_D A (List.flatten [bLT g lt ta lo, bTape g ta ab sz ln kd2_27 bg2_28 nx2_29 (-1) fb, bLaw g lo lc lz2_33 ll lm lg ld fc2_34]) := hD
        refine W.widen (k := 0) (n := 0) (Nat.le_of_ble_eq_true rfl) (Nat.le_of_ble_eq_true rfl) ?_
        refine W.eq (g2 := F0 m 70 ls [.int q_35]) rfl ?_
        refine lv_pop hx hb dX2_readAtom_70 rfl ?_
        refine lv_iconst (v := 1) hx hb dX2_readAtom_71 (by decide) ?_
        have hP : va_P g.1 vwCl (List.flatten [bLT g lt ta lo, bTape g ta ab sz ln kd2_27 bg2_28 nx2_29 (-1) fb, bLaw g lo lc lz2_33 ll lm lg ld fc2_34]) H := hP
        have hD : va_D A (List.flatten [bLT g lt ta lo, bTape g ta ab sz ln kd2_27 bg2_28 nx2_29 (-1) fb, bLaw g lo lc lz2_33 ll lm lg ld fc2_34]) := hD
        exact mret_z hx hb hr hlocks hS (Nat.le_of_ble_eq_true rfl) (Nat.le_of_ble_eq_true rfl) dX2_readAtom_72 (kd2_27, bg2_28, nx2_29, -1, lz2_33, fc2_34, (1 : Int32)) rfl (by decide) (show (0 ≤ lz2_33.toInt ∧ lz2_33.toInt ≤ 400) ∧ (-1 ≤ ((-1) : Int32).toInt) ∧ (0 ≤ nx2_29.toInt ∧ nx2_29.toInt ≤ 400) ∧ (0 ≤ bg2_28.toInt ∧ bg2_28.toInt ≤ 400) ∧ (zKd kd2_27.toInt bg2_28.toInt nx2_29.toInt) ∧ (zTk fb ln.toInt kd2_27.toInt bg2_28.toInt nx2_29.toInt) ∧ (1 = 1 ∧ zAtom fb ln.toInt 3 bg.toInt (.ok bg2_28.toInt) ∧ (-1) = (-1) ∨ 1 = 0 ∧ zAtom fb ln.toInt 3 bg.toInt (.bad ((-1) : Int32).toInt)) from ⟨(by first | assumption | omega | exact Or.inl (by decide) | exact Or.inr (by omega)), (by decide), (by first | assumption | omega | exact Or.inl (by decide) | exact Or.inr (by omega)), (by first | assumption | omega | exact Or.inl (by decide) | exact Or.inr (by omega)), (by first | assumption | omega | exact Or.inl (by decide) | exact Or.inr (by omega)), (by assumption), (Or.inl ⟨rfl, zAt_pl (zor_n hq2_k hq15_k) (zPl_word (Or.inl hq31_k) hq31_km), rfl⟩)⟩) hP hD
      · skip
        refine lv_if_eq (tgt := 73) hx hb dX2_readAtom_57 (by decide) (fun _ => ?_) (fun c37 => absurd (by decide) c37)
        refine lv_aload_n hx hb dX2_readAtom_73 rfl (lv_at hl 0 rfl) ?_
        refine va_get (D := g.1) (ci := 2) (v := .ref ta) (C := RX2) (T := TX2) (N := 2) hx hb hts izRX2 hown hK hP 0 rfl rfl 0 (by decide) (hts _ k290) (fun x9 h9 => u_same (hts _ k291) x9 h9) rfl dX2_readAtom_74 ?_
        refine va_ldcS (q := g.2 24) hx hb hown (zra7 hT.2.1) dX2_readAtom_77 ?_
        refine mcallV' (g := g) (q0 := 0) (ci := 6) (As := [.ref (g.2 24)]) (rest := []) St hK hT hA hP hD hS hl.1 [2] [0, 1] rfl rfl rfl (c_t_takeWordF l g ta ab sz ln kd bg nx (-1) fb (g.2 24) 7 zqa7 hln hnx hbg hkd hTk rfl zla7 zna7 (zlitB zla7)) (cwV 1 hts (zgL (zl4 k310 k311 k312 k277) k284) rfl rfl rfl (by decide +kernel) ⟨Nat.le_of_ble_eq_true rfl, Nat.le_of_ble_eq_true rfl⟩) rfl rfl rfl rfl (Nat.le_of_ble_eq_true rfl) dX2_readAtom_79 ⟨(Nat.le_of_ble_eq_true rfl), (Nat.le_of_ble_eq_true rfl)⟩ (fun u_ H locs hq42 hP hD hS => ?_)
        obtain ⟨kd2_38, bg2_39, nx2_40, r_41⟩ := u_
        replace hq42 : (0 ≤ nx2_40.toInt ∧ nx2_40.toInt ≤ 400) ∧ (0 ≤ bg2_39.toInt ∧ bg2_39.toInt ≤ 400) ∧ (zKd kd2_38.toInt bg2_39.toInt nx2_40.toInt) ∧ (zTk fb ln.toInt kd2_38.toInt bg2_39.toInt nx2_40.toInt) ∧ (r_41 = 1 ∧ zisW fb ln.toInt bg.toInt zqa7.2.2.2 ∧ zMv fb ln.toInt bg.toInt bg2_39.toInt ∨ r_41 = 0 ∧ ¬ zisW fb ln.toInt bg.toInt zqa7.2.2.2 ∧ kd = kd2_38 ∧ bg = bg2_39 ∧ nx = nx2_40) := hq42
        have hP : va_P g.1 vwCl (List.flatten [bLT g lt ta lo, bLaw g lo lc lz ll lm lg ld fc, bTape g ta ab sz ln kd2_38 bg2_39 nx2_40 (-1) fb]) H := hP
        have hD : va_D A (List.flatten [bLT g lt ta lo, bLaw g lo lc lz ll lm lg ld fc, bTape g ta ab sz ln kd2_38 bg2_39 nx2_40 (-1) fb]) := hD
        refine W.widen (k := 0) (n := 0) (Nat.le_of_ble_eq_true rfl) (Nat.le_of_ble_eq_true rfl) ?_
        refine W.eq (g2 := F0 m 82 ls [.int r_41]) rfl ?_
        obtain ⟨hq42_0, hq42_1, hq42_2, hq42_3, hq42_4⟩ := hq42
        rcases hq42_4 with ⟨rfl, hq42_k, hq42_km⟩ | ⟨rfl, hq42_k, rfl, rfl, rfl⟩
        · skip
          refine lv_if_eq (tgt := 98) hx hb dX2_readAtom_82 (by decide) (fun c43 => absurd c43 (by decide)) (fun _ => ?_)
          refine lv_aload_n hx hb dX2_readAtom_85 rfl (lv_at hl 0 rfl) ?_
          refine va_get (D := g.1) (ci := 2) (v := .ref lo) (C := RX2) (T := TX2) (N := 2) hx hb hts izRX2 hown hK hP 0 rfl rfl 1 (by decide) (hts _ k210) (fun _ h9 => h9) rfl dX2_readAtom_86 ?_
          refine lv_bipush (v := 11) hx hb dX2_readAtom_89 (by decide) ?_
          refine lv_iconst (v := 0) hx hb dX2_readAtom_91 (by decide) ?_
          refine mcallV' (g := g) (q0 := 0) (ci := 1) (As := [.int 11, .int 0]) (rest := []) St hK hT hA hP hD hS hl.1 [1] [0, 2] rfl rfl rfl (c_l_put l g lo lc lz ll lm lg ld fc 11 0 b_lz) (cwV 2 hts (zgL (zl4 k297 k298 k299 k85) k202) rfl rfl rfl (by decide +kernel) ⟨Nat.le_of_ble_eq_true rfl, Nat.le_of_ble_eq_true rfl⟩) rfl rfl rfl rfl (Nat.le_of_ble_eq_true rfl) dX2_readAtom_92 ⟨(Nat.le_of_ble_eq_true rfl), (Nat.le_of_ble_eq_true rfl)⟩ (fun u_ H locs hq47 hP hD hS => ?_)
          obtain ⟨lz2_44, fc2_45, q_46⟩ := u_
          replace hq47 : (0 ≤ lz2_44.toInt ∧ lz2_44.toInt ≤ 400) := hq47
          have hP : va_P g.1 vwCl (List.flatten [bLT g lt ta lo, bTape g ta ab sz ln kd2_38 bg2_39 nx2_40 (-1) fb, bLaw g lo lc lz2_44 ll lm lg ld fc2_45]) H := hP
          have hD : va_D A (List.flatten [bLT g lt ta lo, bTape g ta ab sz ln kd2_38 bg2_39 nx2_40 (-1) fb, bLaw g lo lc lz2_44 ll lm lg ld fc2_45]) := hD
          refine W.widen (k := 0) (n := 0) (Nat.le_of_ble_eq_true rfl) (Nat.le_of_ble_eq_true rfl) ?_
          refine W.eq (g2 := F0 m 95 ls [.int q_46]) rfl ?_
          refine lv_pop hx hb dX2_readAtom_95 rfl ?_
          refine lv_iconst (v := 1) hx hb dX2_readAtom_96 (by decide) ?_
          have hP : va_P g.1 vwCl (List.flatten [bLT g lt ta lo, bTape g ta ab sz ln kd2_38 bg2_39 nx2_40 (-1) fb, bLaw g lo lc lz2_44 ll lm lg ld fc2_45]) H := hP
          have hD : va_D A (List.flatten [bLT g lt ta lo, bTape g ta ab sz ln kd2_38 bg2_39 nx2_40 (-1) fb, bLaw g lo lc lz2_44 ll lm lg ld fc2_45]) := hD
          exact mret_z hx hb hr hlocks hS (Nat.le_of_ble_eq_true rfl) (Nat.le_of_ble_eq_true rfl) dX2_readAtom_97 (kd2_38, bg2_39, nx2_40, -1, lz2_44, fc2_45, (1 : Int32)) rfl (by decide) (show (0 ≤ lz2_44.toInt ∧ lz2_44.toInt ≤ 400) ∧ (-1 ≤ ((-1) : Int32).toInt) ∧ (0 ≤ nx2_40.toInt ∧ nx2_40.toInt ≤ 400) ∧ (0 ≤ bg2_39.toInt ∧ bg2_39.toInt ≤ 400) ∧ (zKd kd2_38.toInt bg2_39.toInt nx2_40.toInt) ∧ (zTk fb ln.toInt kd2_38.toInt bg2_39.toInt nx2_40.toInt) ∧ (1 = 1 ∧ zAtom fb ln.toInt 3 bg.toInt (.ok bg2_39.toInt) ∧ (-1) = (-1) ∨ 1 = 0 ∧ zAtom fb ln.toInt 3 bg.toInt (.bad ((-1) : Int32).toInt)) from ⟨(by first | assumption | omega | exact Or.inl (by decide) | exact Or.inr (by omega)), (by decide), (by first | assumption | omega | exact Or.inl (by decide) | exact Or.inr (by omega)), (by first | assumption | omega | exact Or.inl (by decide) | exact Or.inr (by omega)), (by first | assumption | omega | exact Or.inl (by decide) | exact Or.inr (by omega)), (by assumption), (Or.inl ⟨rfl, zAt_pl (zor_n hq2_k hq15_k) (zPl_word (Or.inr hq42_k) hq42_km), rfl⟩)⟩) hP hD
        · skip
          refine lv_if_eq (tgt := 98) hx hb dX2_readAtom_82 (by decide) (fun _ => ?_) (fun c48 => absurd (by decide) c48)
          refine lv_aload_n hx hb dX2_readAtom_98 rfl (lv_at hl 0 rfl) ?_
          refine mcallV' (g := g) (q0 := 0) (ci := 2) (As := []) (rest := []) St hK hT hA hP hD hS hl.1 [0, 2, 1] [] rfl rfl rfl (c_lt_readSumF l g lt ta lo ab sz ln kd bg nx fb lc lz ll lm lg ld fc b_lz hln hnx hbg hkd hTk) (cwV 0 hts (zgL (zl4 k313 k314 k315 k309) k304) rfl rfl rfl (by decide +kernel) ⟨Nat.le_of_ble_eq_true rfl, Nat.le_of_ble_eq_true rfl⟩) rfl rfl rfl rfl (Nat.le_of_ble_eq_true rfl) dX2_readAtom_99 ⟨(Nat.le_of_ble_eq_true rfl), (Nat.le_of_ble_eq_true rfl)⟩ (fun u_ H locs hq56 hP hD hS => ?_)
          obtain ⟨kd2_49, bg2_50, nx2_51, ft2_52, lz2_53, fc2_54, q_55⟩ := u_
          replace hq56 : (0 ≤ lz2_53.toInt ∧ lz2_53.toInt ≤ 400) ∧ (-1 ≤ ft2_52.toInt) ∧ (0 ≤ nx2_51.toInt ∧ nx2_51.toInt ≤ 400) ∧ (0 ≤ bg2_50.toInt ∧ bg2_50.toInt ≤ 400) ∧ (zKd kd2_49.toInt bg2_50.toInt nx2_51.toInt) ∧ (zTk fb ln.toInt kd2_49.toInt bg2_50.toInt nx2_51.toInt) ∧ (q_55 = 1 ∧ zSum fb ln.toInt bg.toInt (.ok bg2_50.toInt) ∧ (-1) = ft2_52 ∨ q_55 = 0 ∧ zSum fb ln.toInt bg.toInt (.bad ft2_52.toInt)) := hq56
          have hP : va_P g.1 vwCl (List.flatten [bLT g lt ta lo, bTape g ta ab sz ln kd2_49 bg2_50 nx2_51 ft2_52 fb, bLaw g lo lc lz2_53 ll lm lg ld fc2_54]) H := hP
          have hD : va_D A (List.flatten [bLT g lt ta lo, bTape g ta ab sz ln kd2_49 bg2_50 nx2_51 ft2_52 fb, bLaw g lo lc lz2_53 ll lm lg ld fc2_54]) := hD
          refine W.widen (k := 0) (n := 0) (Nat.le_of_ble_eq_true rfl) (Nat.le_of_ble_eq_true rfl) ?_
          refine W.eq (g2 := F0 m 102 ls [.int q_55]) rfl ?_
          obtain ⟨hq56_0, hq56_1, hq56_2, hq56_3, hq56_4, hq56_5, hq56_6⟩ := hq56
          rcases hq56_6 with ⟨rfl, hq56_k, rfl⟩ | ⟨rfl, hq56_k⟩
          · skip
            refine lv_if_ne (tgt := 107) hx hb dX2_readAtom_102 (by decide) (fun _ => ?_) (fun c57 => absurd c57 (by decide))
            refine lv_aload_n hx hb dX2_readAtom_107 rfl (lv_at hl 0 rfl) ?_
            refine va_get (D := g.1) (ci := 2) (v := .ref ta) (C := RX2) (T := TX2) (N := 2) hx hb hts izRX2 hown hK hP 0 rfl rfl 0 (by decide) (hts _ k290) (fun x9 h9 => u_same (hts _ k291) x9 h9) rfl dX2_readAtom_108 ?_
            refine lv_bipush (v := 60) hx hb dX2_readAtom_111 (by decide) ?_
            have hL60 : (60 : Int32).toInt = 60 := by decide
            refine mcallV' (g := g) (q0 := 0) (ci := 6) (As := [.int 60]) (rest := []) St hK hT hA hP hD hS hl.1 [1] [0, 2] rfl rfl rfl (c_t_isSignF l g ta ab sz ln kd2_49 bg2_50 nx2_51 (-1) fb 60 hln hq56_2 hq56_3 hq56_4 hq56_5) (cwV 1 hts (zgL (zl4 k305 k288 k289 k277) k285) rfl rfl rfl (by decide +kernel) ⟨Nat.le_of_ble_eq_true rfl, Nat.le_of_ble_eq_true rfl⟩) rfl rfl rfl rfl (Nat.le_of_ble_eq_true rfl) dX2_readAtom_113 ⟨(Nat.le_of_ble_eq_true rfl), (Nat.le_of_ble_eq_true rfl)⟩ (fun q_58 H locs hq59 hP hD hS => ?_)
            replace hq59 : (q_58 = 1 ∧ zisS fb ln.toInt bg2_50.toInt (60 : Int32).toInt ∨ q_58 = 0 ∧ ¬ zisS fb ln.toInt bg2_50.toInt (60 : Int32).toInt) := hq59
            have hP : va_P g.1 vwCl (List.flatten [bLT g lt ta lo, bLaw g lo lc lz2_53 ll lm lg ld fc2_54, bTape g ta ab sz ln kd2_49 bg2_50 nx2_51 (-1) fb]) H := hP
            have hD : va_D A (List.flatten [bLT g lt ta lo, bLaw g lo lc lz2_53 ll lm lg ld fc2_54, bTape g ta ab sz ln kd2_49 bg2_50 nx2_51 (-1) fb]) := hD
            refine W.widen (k := 0) (n := 0) (Nat.le_of_ble_eq_true rfl) (Nat.le_of_ble_eq_true rfl) ?_
            refine W.eq (g2 := F0 m 116 ls [.int q_58]) rfl ?_
            rcases hq59 with ⟨rfl, hq59_k⟩ | ⟨rfl, hq59_k⟩
            · skip
              refine lv_istore_n (lv' := [(2, .int 1), (0, .ref lt), (1, .int 3)]) hx hb dX2_readAtom_116 rfl hl (by decide) rfl (fun ls hl => ?_)
              refine lv_iload_n hx hb dX2_readAtom_117 rfl (lv_at hl 0 rfl) ?_
              refine lv_if_ne (tgt := 141) hx hb dX2_readAtom_118 (by decide) (fun _ => ?_) (fun c60 => absurd c60 (by decide))
              refine lv_aload_n hx hb dX2_readAtom_141 rfl (lv_at hl 1 rfl) ?_
              refine va_get (D := g.1) (ci := 2) (v := .ref ta) (C := RX2) (T := TX2) (N := 2) hx hb hts izRX2 hown hK hP 0 rfl rfl 0 (by decide) (hts _ k290) (fun x9 h9 => u_same (hts _ k291) x9 h9) rfl dX2_readAtom_142 ?_
              refine mcallV' (g := g) (q0 := 0) (ci := 6) (As := []) (rest := []) St hK hT hA hP hD hS hl.1 [2] [0, 1] rfl rfl rfl (c_t_stepF l g ta ab sz ln kd2_49 bg2_50 nx2_51 (-1) fb hln hq56_2) (cwV 0 hts (zgL (zl4 k296 k275 k276 k277) k271) rfl rfl rfl (by decide +kernel) ⟨Nat.le_of_ble_eq_true rfl, Nat.le_of_ble_eq_true rfl⟩) rfl rfl rfl rfl (Nat.le_of_ble_eq_true rfl) dX2_readAtom_145 ⟨(Nat.le_of_ble_eq_true rfl), (Nat.le_of_ble_eq_true rfl)⟩ (fun u_ H locs hq64 hP hD hS => ?_)
              obtain ⟨kd2_61, bg2_62, nx2_63⟩ := u_
              replace hq64 : (0 ≤ nx2_63.toInt ∧ nx2_63.toInt ≤ 400) ∧ (0 ≤ bg2_62.toInt ∧ bg2_62.toInt ≤ 400) ∧ (zKd kd2_61.toInt bg2_62.toInt nx2_63.toInt) ∧ (zSk fb ln.toInt nx2_51.toInt bg2_62.toInt) ∧ (zTk fb ln.toInt kd2_61.toInt bg2_62.toInt nx2_63.toInt) := hq64
              have hP : va_P g.1 vwCl (List.flatten [bLT g lt ta lo, bLaw g lo lc lz2_53 ll lm lg ld fc2_54, bTape g ta ab sz ln kd2_61 bg2_62 nx2_63 (-1) fb]) H := hP
              have hD : va_D A (List.flatten [bLT g lt ta lo, bLaw g lo lc lz2_53 ll lm lg ld fc2_54, bTape g ta ab sz ln kd2_61 bg2_62 nx2_63 (-1) fb]) := hD
              refine W.widen (k := 0) (n := 0) (Nat.le_of_ble_eq_true rfl) (Nat.le_of_ble_eq_true rfl) ?_
              refine W.eq (g2 := F0 m 148 ls []) rfl ?_
              obtain ⟨hq64_0, hq64_1, hq64_2, hq64_3, hq64_4⟩ := hq64
              refine lv_aload_n hx hb dX2_readAtom_148 rfl (lv_at hl 1 rfl) ?_
              refine va_get (D := g.1) (ci := 2) (v := .ref lo) (C := RX2) (T := TX2) (N := 2) hx hb hts izRX2 hown hK hP 0 rfl rfl 1 (by decide) (hts _ k210) (fun _ h9 => h9) rfl dX2_readAtom_149 ?_
              refine lv_bipush (v := 7) hx hb dX2_readAtom_152 (by decide) ?_
              refine lv_iconst (v := 0) hx hb dX2_readAtom_154 (by decide) ?_
              refine mcallV' (g := g) (q0 := 0) (ci := 1) (As := [.int 7, .int 0]) (rest := []) St hK hT hA hP hD hS hl.1 [1] [0, 2] rfl rfl rfl (c_l_put l g lo lc lz2_53 ll lm lg ld fc2_54 7 0 hq56_0) (cwV 2 hts (zgL (zl4 k297 k298 k299 k85) k202) rfl rfl rfl (by decide +kernel) ⟨Nat.le_of_ble_eq_true rfl, Nat.le_of_ble_eq_true rfl⟩) rfl rfl rfl rfl (Nat.le_of_ble_eq_true rfl) dX2_readAtom_155 ⟨(Nat.le_of_ble_eq_true rfl), (Nat.le_of_ble_eq_true rfl)⟩ (fun u_ H locs hq68 hP hD hS => ?_)
              obtain ⟨lz2_65, fc2_66, q_67⟩ := u_
              replace hq68 : (0 ≤ lz2_65.toInt ∧ lz2_65.toInt ≤ 400) := hq68
              have hP : va_P g.1 vwCl (List.flatten [bLT g lt ta lo, bTape g ta ab sz ln kd2_61 bg2_62 nx2_63 (-1) fb, bLaw g lo lc lz2_65 ll lm lg ld fc2_66]) H := hP
              have hD : va_D A (List.flatten [bLT g lt ta lo, bTape g ta ab sz ln kd2_61 bg2_62 nx2_63 (-1) fb, bLaw g lo lc lz2_65 ll lm lg ld fc2_66]) := hD
              refine W.widen (k := 0) (n := 0) (Nat.le_of_ble_eq_true rfl) (Nat.le_of_ble_eq_true rfl) ?_
              refine W.eq (g2 := F0 m 158 ls [.int q_67]) rfl ?_
              refine lv_pop hx hb dX2_readAtom_158 rfl ?_
              refine lv_aload_n hx hb dX2_readAtom_159 rfl (lv_at hl 1 rfl) ?_
              refine mcallV' (g := g) (q0 := 0) (ci := 2) (As := []) (rest := []) St hK hT hA hP hD hS hl.1 [0, 1, 2] [] rfl rfl rfl (c_lt_readSumF l g lt ta lo ab sz ln kd2_61 bg2_62 nx2_63 fb lc lz2_65 ll lm lg ld fc2_66 hq68 hln hq64_0 hq64_1 hq64_2 hq64_4) (cwV 0 hts (zgL (zl4 k313 k314 k315 k309) k304) rfl rfl rfl (by decide +kernel) ⟨Nat.le_of_ble_eq_true rfl, Nat.le_of_ble_eq_true rfl⟩) rfl rfl rfl rfl (Nat.le_of_ble_eq_true rfl) dX2_readAtom_160 ⟨(Nat.le_of_ble_eq_true rfl), (Nat.le_of_ble_eq_true rfl)⟩ (fun u_ H locs hq76 hP hD hS => ?_)
              obtain ⟨kd2_69, bg2_70, nx2_71, ft2_72, lz2_73, fc2_74, q_75⟩ := u_
              replace hq76 : (0 ≤ lz2_73.toInt ∧ lz2_73.toInt ≤ 400) ∧ (-1 ≤ ft2_72.toInt) ∧ (0 ≤ nx2_71.toInt ∧ nx2_71.toInt ≤ 400) ∧ (0 ≤ bg2_70.toInt ∧ bg2_70.toInt ≤ 400) ∧ (zKd kd2_69.toInt bg2_70.toInt nx2_71.toInt) ∧ (zTk fb ln.toInt kd2_69.toInt bg2_70.toInt nx2_71.toInt) ∧ (q_75 = 1 ∧ zSum fb ln.toInt bg2_62.toInt (.ok bg2_70.toInt) ∧ (-1) = ft2_72 ∨ q_75 = 0 ∧ zSum fb ln.toInt bg2_62.toInt (.bad ft2_72.toInt)) := hq76
              have hP : va_P g.1 vwCl (List.flatten [bLT g lt ta lo, bTape g ta ab sz ln kd2_69 bg2_70 nx2_71 ft2_72 fb, bLaw g lo lc lz2_73 ll lm lg ld fc2_74]) H := hP
              have hD : va_D A (List.flatten [bLT g lt ta lo, bTape g ta ab sz ln kd2_69 bg2_70 nx2_71 ft2_72 fb, bLaw g lo lc lz2_73 ll lm lg ld fc2_74]) := hD
              refine W.widen (k := 0) (n := 0) (Nat.le_of_ble_eq_true rfl) (Nat.le_of_ble_eq_true rfl) ?_
              refine W.eq (g2 := F0 m 163 ls [.int q_75]) rfl ?_
              obtain ⟨hq76_0, hq76_1, hq76_2, hq76_3, hq76_4, hq76_5, hq76_6⟩ := hq76
              rcases hq76_6 with ⟨rfl, hq76_k, rfl⟩ | ⟨rfl, hq76_k⟩
              · skip
                refine lv_if_ne (tgt := 168) hx hb dX2_readAtom_163 (by decide) (fun _ => ?_) (fun c77 => absurd c77 (by decide))
                refine lv_aload_n hx hb dX2_readAtom_168 rfl (lv_at hl 1 rfl) ?_
                refine va_get (D := g.1) (ci := 2) (v := .ref lo) (C := RX2) (T := TX2) (N := 2) hx hb hts izRX2 hown hK hP 0 rfl rfl 1 (by decide) (hts _ k210) (fun _ h9 => h9) rfl dX2_readAtom_169 ?_
                refine lv_iload_n hx hb dX2_readAtom_172 rfl (lv_at hl 0 rfl) ?_
                refine lv_if_eq (tgt := 181) hx hb dX2_readAtom_173 (by decide) (fun c78 => absurd c78 (by decide)) (fun _ => ?_)
                refine lv_bipush (v := 8) hx hb dX2_readAtom_176 (by decide) ?_
                refine lv_goto (tgt := 183) hx hb dX2_readAtom_178 (by decide) ?_
                refine lv_iconst (v := 0) hx hb dX2_readAtom_183 (by decide) ?_
                refine mcallV' (g := g) (q0 := 0) (ci := 1) (As := [.int 8, .int 0]) (rest := []) St hK hT hA hP hD hS hl.1 [2] [0, 1] rfl rfl rfl (c_l_put l g lo lc lz2_73 ll lm lg ld fc2_74 8 0 hq76_0) (cwV 2 hts (zgL (zl4 k297 k298 k299 k85) k202) rfl rfl rfl (by decide +kernel) ⟨Nat.le_of_ble_eq_true rfl, Nat.le_of_ble_eq_true rfl⟩) rfl rfl rfl rfl (Nat.le_of_ble_eq_true rfl) dX2_readAtom_184 ⟨(Nat.le_of_ble_eq_true rfl), (Nat.le_of_ble_eq_true rfl)⟩ (fun u_ H locs hq82 hP hD hS => ?_)
                obtain ⟨lz2_79, fc2_80, q_81⟩ := u_
                replace hq82 : (0 ≤ lz2_79.toInt ∧ lz2_79.toInt ≤ 400) := hq82
                have hP : va_P g.1 vwCl (List.flatten [bLT g lt ta lo, bTape g ta ab sz ln kd2_69 bg2_70 nx2_71 (-1) fb, bLaw g lo lc lz2_79 ll lm lg ld fc2_80]) H := hP
                have hD : va_D A (List.flatten [bLT g lt ta lo, bTape g ta ab sz ln kd2_69 bg2_70 nx2_71 (-1) fb, bLaw g lo lc lz2_79 ll lm lg ld fc2_80]) := hD
                refine W.widen (k := 0) (n := 0) (Nat.le_of_ble_eq_true rfl) (Nat.le_of_ble_eq_true rfl) ?_
                refine W.eq (g2 := F0 m 187 ls [.int q_81]) rfl ?_
                refine lv_pop hx hb dX2_readAtom_187 rfl ?_
                refine lv_iconst (v := 1) hx hb dX2_readAtom_188 (by decide) ?_
                have hP : va_P g.1 vwCl (List.flatten [bLT g lt ta lo, bTape g ta ab sz ln kd2_69 bg2_70 nx2_71 (-1) fb, bLaw g lo lc lz2_79 ll lm lg ld fc2_80]) H := hP
                have hD : va_D A (List.flatten [bLT g lt ta lo, bTape g ta ab sz ln kd2_69 bg2_70 nx2_71 (-1) fb, bLaw g lo lc lz2_79 ll lm lg ld fc2_80]) := hD
                exact mret_z hx hb hr hlocks hS (Nat.le_of_ble_eq_true rfl) (Nat.le_of_ble_eq_true rfl) dX2_readAtom_189 (kd2_69, bg2_70, nx2_71, -1, lz2_79, fc2_80, (1 : Int32)) rfl (by decide) (show (0 ≤ lz2_79.toInt ∧ lz2_79.toInt ≤ 400) ∧ (-1 ≤ ((-1) : Int32).toInt) ∧ (0 ≤ nx2_71.toInt ∧ nx2_71.toInt ≤ 400) ∧ (0 ≤ bg2_70.toInt ∧ bg2_70.toInt ≤ 400) ∧ (zKd kd2_69.toInt bg2_70.toInt nx2_71.toInt) ∧ (zTk fb ln.toInt kd2_69.toInt bg2_70.toInt nx2_71.toInt) ∧ (1 = 1 ∧ zAtom fb ln.toInt 3 bg.toInt (.ok bg2_70.toInt) ∧ (-1) = (-1) ∨ 1 = 0 ∧ zAtom fb ln.toInt 3 bg.toInt (.bad ((-1) : Int32).toInt)) from ⟨(by first | assumption | omega | exact Or.inl (by decide) | exact Or.inr (by omega)), (by decide), (by first | assumption | omega | exact Or.inl (by decide) | exact Or.inr (by omega)), (by first | assumption | omega | exact Or.inl (by decide) | exact Or.inr (by omega)), (by first | assumption | omega | exact Or.inl (by decide) | exact Or.inr (by omega)), (by assumption), (Or.inl ⟨rfl, zAt_pl (zor_n hq2_k hq15_k) (zPl_all (zor_n hq31_k hq42_k) hq56_k (Or.inl hq59_k) (zMv_mk hq56_5 hq64_3) hq76_k), rfl⟩)⟩) hP hD
              · skip
                refine lv_if_ne (tgt := 168) hx hb dX2_readAtom_163 (by decide) (fun c83 => absurd (by decide) c83) (fun _ => ?_)
                refine lv_iconst (v := 0) hx hb dX2_readAtom_166 (by decide) ?_
                have hP : va_P g.1 vwCl (List.flatten [bLT g lt ta lo, bTape g ta ab sz ln kd2_69 bg2_70 nx2_71 ft2_72 fb, bLaw g lo lc lz2_73 ll lm lg ld fc2_74]) H := hP
                have hD : va_D A (List.flatten [bLT g lt ta lo, bTape g ta ab sz ln kd2_69 bg2_70 nx2_71 ft2_72 fb, bLaw g lo lc lz2_73 ll lm lg ld fc2_74]) := hD
                exact mret_z hx hb hr hlocks hS (Nat.le_of_ble_eq_true rfl) (Nat.le_of_ble_eq_true rfl) dX2_readAtom_167 (kd2_69, bg2_70, nx2_71, ft2_72, lz2_73, fc2_74, (0 : Int32)) rfl (by decide) (show (0 ≤ lz2_73.toInt ∧ lz2_73.toInt ≤ 400) ∧ (-1 ≤ ft2_72.toInt) ∧ (0 ≤ nx2_71.toInt ∧ nx2_71.toInt ≤ 400) ∧ (0 ≤ bg2_70.toInt ∧ bg2_70.toInt ≤ 400) ∧ (zKd kd2_69.toInt bg2_70.toInt nx2_71.toInt) ∧ (zTk fb ln.toInt kd2_69.toInt bg2_70.toInt nx2_71.toInt) ∧ (0 = 1 ∧ zAtom fb ln.toInt 3 bg.toInt (.ok bg2_70.toInt) ∧ (-1) = ft2_72 ∨ 0 = 0 ∧ zAtom fb ln.toInt 3 bg.toInt (.bad ft2_72.toInt)) from ⟨(by first | assumption | omega | exact Or.inl (by decide) | exact Or.inr (by omega)), (by first | decide | omega), (by first | assumption | omega | exact Or.inl (by decide) | exact Or.inr (by omega)), (by first | assumption | omega | exact Or.inl (by decide) | exact Or.inr (by omega)), (by first | assumption | omega | exact Or.inl (by decide) | exact Or.inr (by omega)), (by assumption), (Or.inr ⟨rfl, zAt_pl (zor_n hq2_k hq15_k) (zPl_all (zor_n hq31_k hq42_k) hq56_k (Or.inl hq59_k) (zMv_mk hq56_5 hq64_3) hq76_k)⟩)⟩) hP hD
            · skip
              refine lv_istore_n (lv' := [(2, .int 0), (0, .ref lt), (1, .int 3)]) hx hb dX2_readAtom_116 rfl hl (by decide) rfl (fun ls hl => ?_)
              refine lv_iload_n hx hb dX2_readAtom_117 rfl (lv_at hl 0 rfl) ?_
              refine lv_if_ne (tgt := 141) hx hb dX2_readAtom_118 (by decide) (fun c84 => absurd (by decide) c84) (fun _ => ?_)
              refine lv_aload_n hx hb dX2_readAtom_121 rfl (lv_at hl 1 rfl) ?_
              refine va_get (D := g.1) (ci := 2) (v := .ref ta) (C := RX2) (T := TX2) (N := 2) hx hb hts izRX2 hown hK hP 0 rfl rfl 0 (by decide) (hts _ k290) (fun x9 h9 => u_same (hts _ k291) x9 h9) rfl dX2_readAtom_122 ?_
              refine lv_bipush (v := 62) hx hb dX2_readAtom_125 (by decide) ?_
              have hL62 : (62 : Int32).toInt = 62 := by decide
              refine mcallV' (g := g) (q0 := 0) (ci := 6) (As := [.int 62]) (rest := []) St hK hT hA hP hD hS hl.1 [2] [0, 1] rfl rfl rfl (c_t_isSignF l g ta ab sz ln kd2_49 bg2_50 nx2_51 (-1) fb 62 hln hq56_2 hq56_3 hq56_4 hq56_5) (cwV 1 hts (zgL (zl4 k305 k288 k289 k277) k285) rfl rfl rfl (by decide +kernel) ⟨Nat.le_of_ble_eq_true rfl, Nat.le_of_ble_eq_true rfl⟩) rfl rfl rfl rfl (Nat.le_of_ble_eq_true rfl) dX2_readAtom_127 ⟨(Nat.le_of_ble_eq_true rfl), (Nat.le_of_ble_eq_true rfl)⟩ (fun q_85 H locs hq86 hP hD hS => ?_)
              replace hq86 : (q_85 = 1 ∧ zisS fb ln.toInt bg2_50.toInt (62 : Int32).toInt ∨ q_85 = 0 ∧ ¬ zisS fb ln.toInt bg2_50.toInt (62 : Int32).toInt) := hq86
              have hP : va_P g.1 vwCl (List.flatten [bLT g lt ta lo, bLaw g lo lc lz2_53 ll lm lg ld fc2_54, bTape g ta ab sz ln kd2_49 bg2_50 nx2_51 (-1) fb]) H := hP
              have hD : va_D A (List.flatten [bLT g lt ta lo, bLaw g lo lc lz2_53 ll lm lg ld fc2_54, bTape g ta ab sz ln kd2_49 bg2_50 nx2_51 (-1) fb]) := hD
              refine W.widen (k := 0) (n := 0) (Nat.le_of_ble_eq_true rfl) (Nat.le_of_ble_eq_true rfl) ?_
              refine W.eq (g2 := F0 m 130 ls [.int q_85]) rfl ?_
              rcases hq86 with ⟨rfl, hq86_k⟩ | ⟨rfl, hq86_k⟩
              · skip
                refine lv_if_ne (tgt := 141) hx hb dX2_readAtom_130 (by decide) (fun _ => ?_) (fun c87 => absurd c87 (by decide))
                refine lv_aload_n hx hb dX2_readAtom_141 rfl (lv_at hl 1 rfl) ?_
                refine va_get (D := g.1) (ci := 2) (v := .ref ta) (C := RX2) (T := TX2) (N := 2) hx hb hts izRX2 hown hK hP 0 rfl rfl 0 (by decide) (hts _ k290) (fun x9 h9 => u_same (hts _ k291) x9 h9) rfl dX2_readAtom_142 ?_
                refine mcallV' (g := g) (q0 := 0) (ci := 6) (As := []) (rest := []) St hK hT hA hP hD hS hl.1 [2] [0, 1] rfl rfl rfl (c_t_stepF l g ta ab sz ln kd2_49 bg2_50 nx2_51 (-1) fb hln hq56_2) (cwV 0 hts (zgL (zl4 k296 k275 k276 k277) k271) rfl rfl rfl (by decide +kernel) ⟨Nat.le_of_ble_eq_true rfl, Nat.le_of_ble_eq_true rfl⟩) rfl rfl rfl rfl (Nat.le_of_ble_eq_true rfl) dX2_readAtom_145 ⟨(Nat.le_of_ble_eq_true rfl), (Nat.le_of_ble_eq_true rfl)⟩ (fun u_ H locs hq91 hP hD hS => ?_)
                obtain ⟨kd2_88, bg2_89, nx2_90⟩ := u_
                replace hq91 : (0 ≤ nx2_90.toInt ∧ nx2_90.toInt ≤ 400) ∧ (0 ≤ bg2_89.toInt ∧ bg2_89.toInt ≤ 400) ∧ (zKd kd2_88.toInt bg2_89.toInt nx2_90.toInt) ∧ (zSk fb ln.toInt nx2_51.toInt bg2_89.toInt) ∧ (zTk fb ln.toInt kd2_88.toInt bg2_89.toInt nx2_90.toInt) := hq91
                have hP : va_P g.1 vwCl (List.flatten [bLT g lt ta lo, bLaw g lo lc lz2_53 ll lm lg ld fc2_54, bTape g ta ab sz ln kd2_88 bg2_89 nx2_90 (-1) fb]) H := hP
                have hD : va_D A (List.flatten [bLT g lt ta lo, bLaw g lo lc lz2_53 ll lm lg ld fc2_54, bTape g ta ab sz ln kd2_88 bg2_89 nx2_90 (-1) fb]) := hD
                refine W.widen (k := 0) (n := 0) (Nat.le_of_ble_eq_true rfl) (Nat.le_of_ble_eq_true rfl) ?_
                refine W.eq (g2 := F0 m 148 ls []) rfl ?_
                obtain ⟨hq91_0, hq91_1, hq91_2, hq91_3, hq91_4⟩ := hq91
                refine lv_aload_n hx hb dX2_readAtom_148 rfl (lv_at hl 1 rfl) ?_
                refine va_get (D := g.1) (ci := 2) (v := .ref lo) (C := RX2) (T := TX2) (N := 2) hx hb hts izRX2 hown hK hP 0 rfl rfl 1 (by decide) (hts _ k210) (fun _ h9 => h9) rfl dX2_readAtom_149 ?_
                refine lv_bipush (v := 7) hx hb dX2_readAtom_152 (by decide) ?_
                refine lv_iconst (v := 0) hx hb dX2_readAtom_154 (by decide) ?_
                refine mcallV' (g := g) (q0 := 0) (ci := 1) (As := [.int 7, .int 0]) (rest := []) St hK hT hA hP hD hS hl.1 [1] [0, 2] rfl rfl rfl (c_l_put l g lo lc lz2_53 ll lm lg ld fc2_54 7 0 hq56_0) (cwV 2 hts (zgL (zl4 k297 k298 k299 k85) k202) rfl rfl rfl (by decide +kernel) ⟨Nat.le_of_ble_eq_true rfl, Nat.le_of_ble_eq_true rfl⟩) rfl rfl rfl rfl (Nat.le_of_ble_eq_true rfl) dX2_readAtom_155 ⟨(Nat.le_of_ble_eq_true rfl), (Nat.le_of_ble_eq_true rfl)⟩ (fun u_ H locs hq95 hP hD hS => ?_)
                obtain ⟨lz2_92, fc2_93, q_94⟩ := u_
                replace hq95 : (0 ≤ lz2_92.toInt ∧ lz2_92.toInt ≤ 400) := hq95
                have hP : va_P g.1 vwCl (List.flatten [bLT g lt ta lo, bTape g ta ab sz ln kd2_88 bg2_89 nx2_90 (-1) fb, bLaw g lo lc lz2_92 ll lm lg ld fc2_93]) H := hP
                have hD : va_D A (List.flatten [bLT g lt ta lo, bTape g ta ab sz ln kd2_88 bg2_89 nx2_90 (-1) fb, bLaw g lo lc lz2_92 ll lm lg ld fc2_93]) := hD
                refine W.widen (k := 0) (n := 0) (Nat.le_of_ble_eq_true rfl) (Nat.le_of_ble_eq_true rfl) ?_
                refine W.eq (g2 := F0 m 158 ls [.int q_94]) rfl ?_
                refine lv_pop hx hb dX2_readAtom_158 rfl ?_
                refine lv_aload_n hx hb dX2_readAtom_159 rfl (lv_at hl 1 rfl) ?_
                refine mcallV' (g := g) (q0 := 0) (ci := 2) (As := []) (rest := []) St hK hT hA hP hD hS hl.1 [0, 1, 2] [] rfl rfl rfl (c_lt_readSumF l g lt ta lo ab sz ln kd2_88 bg2_89 nx2_90 fb lc lz2_92 ll lm lg ld fc2_93 hq95 hln hq91_0 hq91_1 hq91_2 hq91_4) (cwV 0 hts (zgL (zl4 k313 k314 k315 k309) k304) rfl rfl rfl (by decide +kernel) ⟨Nat.le_of_ble_eq_true rfl, Nat.le_of_ble_eq_true rfl⟩) rfl rfl rfl rfl (Nat.le_of_ble_eq_true rfl) dX2_readAtom_160 ⟨(Nat.le_of_ble_eq_true rfl), (Nat.le_of_ble_eq_true rfl)⟩ (fun u_ H locs hq103 hP hD hS => ?_)
                obtain ⟨kd2_96, bg2_97, nx2_98, ft2_99, lz2_100, fc2_101, q_102⟩ := u_
                replace hq103 : (0 ≤ lz2_100.toInt ∧ lz2_100.toInt ≤ 400) ∧ (-1 ≤ ft2_99.toInt) ∧ (0 ≤ nx2_98.toInt ∧ nx2_98.toInt ≤ 400) ∧ (0 ≤ bg2_97.toInt ∧ bg2_97.toInt ≤ 400) ∧ (zKd kd2_96.toInt bg2_97.toInt nx2_98.toInt) ∧ (zTk fb ln.toInt kd2_96.toInt bg2_97.toInt nx2_98.toInt) ∧ (q_102 = 1 ∧ zSum fb ln.toInt bg2_89.toInt (.ok bg2_97.toInt) ∧ (-1) = ft2_99 ∨ q_102 = 0 ∧ zSum fb ln.toInt bg2_89.toInt (.bad ft2_99.toInt)) := hq103
                have hP : va_P g.1 vwCl (List.flatten [bLT g lt ta lo, bTape g ta ab sz ln kd2_96 bg2_97 nx2_98 ft2_99 fb, bLaw g lo lc lz2_100 ll lm lg ld fc2_101]) H := hP
                have hD : va_D A (List.flatten [bLT g lt ta lo, bTape g ta ab sz ln kd2_96 bg2_97 nx2_98 ft2_99 fb, bLaw g lo lc lz2_100 ll lm lg ld fc2_101]) := hD
                refine W.widen (k := 0) (n := 0) (Nat.le_of_ble_eq_true rfl) (Nat.le_of_ble_eq_true rfl) ?_
                refine W.eq (g2 := F0 m 163 ls [.int q_102]) rfl ?_
                obtain ⟨hq103_0, hq103_1, hq103_2, hq103_3, hq103_4, hq103_5, hq103_6⟩ := hq103
                rcases hq103_6 with ⟨rfl, hq103_k, rfl⟩ | ⟨rfl, hq103_k⟩
                · skip
                  refine lv_if_ne (tgt := 168) hx hb dX2_readAtom_163 (by decide) (fun _ => ?_) (fun c104 => absurd c104 (by decide))
                  refine lv_aload_n hx hb dX2_readAtom_168 rfl (lv_at hl 1 rfl) ?_
                  refine va_get (D := g.1) (ci := 2) (v := .ref lo) (C := RX2) (T := TX2) (N := 2) hx hb hts izRX2 hown hK hP 0 rfl rfl 1 (by decide) (hts _ k210) (fun _ h9 => h9) rfl dX2_readAtom_169 ?_
                  refine lv_iload_n hx hb dX2_readAtom_172 rfl (lv_at hl 0 rfl) ?_
                  refine lv_if_eq (tgt := 181) hx hb dX2_readAtom_173 (by decide) (fun _ => ?_) (fun c105 => absurd (by decide) c105)
                  refine lv_bipush (v := 9) hx hb dX2_readAtom_181 (by decide) ?_
                  refine lv_iconst (v := 0) hx hb dX2_readAtom_183 (by decide) ?_
                  refine mcallV' (g := g) (q0 := 0) (ci := 1) (As := [.int 9, .int 0]) (rest := []) St hK hT hA hP hD hS hl.1 [2] [0, 1] rfl rfl rfl (c_l_put l g lo lc lz2_100 ll lm lg ld fc2_101 9 0 hq103_0) (cwV 2 hts (zgL (zl4 k297 k298 k299 k85) k202) rfl rfl rfl (by decide +kernel) ⟨Nat.le_of_ble_eq_true rfl, Nat.le_of_ble_eq_true rfl⟩) rfl rfl rfl rfl (Nat.le_of_ble_eq_true rfl) dX2_readAtom_184 ⟨(Nat.le_of_ble_eq_true rfl), (Nat.le_of_ble_eq_true rfl)⟩ (fun u_ H locs hq109 hP hD hS => ?_)
                  obtain ⟨lz2_106, fc2_107, q_108⟩ := u_
                  replace hq109 : (0 ≤ lz2_106.toInt ∧ lz2_106.toInt ≤ 400) := hq109
                  have hP : va_P g.1 vwCl (List.flatten [bLT g lt ta lo, bTape g ta ab sz ln kd2_96 bg2_97 nx2_98 (-1) fb, bLaw g lo lc lz2_106 ll lm lg ld fc2_107]) H := hP
                  have hD : va_D A (List.flatten [bLT g lt ta lo, bTape g ta ab sz ln kd2_96 bg2_97 nx2_98 (-1) fb, bLaw g lo lc lz2_106 ll lm lg ld fc2_107]) := hD
                  refine W.widen (k := 0) (n := 0) (Nat.le_of_ble_eq_true rfl) (Nat.le_of_ble_eq_true rfl) ?_
                  refine W.eq (g2 := F0 m 187 ls [.int q_108]) rfl ?_
                  refine lv_pop hx hb dX2_readAtom_187 rfl ?_
                  refine lv_iconst (v := 1) hx hb dX2_readAtom_188 (by decide) ?_
                  have hP : va_P g.1 vwCl (List.flatten [bLT g lt ta lo, bTape g ta ab sz ln kd2_96 bg2_97 nx2_98 (-1) fb, bLaw g lo lc lz2_106 ll lm lg ld fc2_107]) H := hP
                  have hD : va_D A (List.flatten [bLT g lt ta lo, bTape g ta ab sz ln kd2_96 bg2_97 nx2_98 (-1) fb, bLaw g lo lc lz2_106 ll lm lg ld fc2_107]) := hD
                  exact mret_z hx hb hr hlocks hS (Nat.le_of_ble_eq_true rfl) (Nat.le_of_ble_eq_true rfl) dX2_readAtom_189 (kd2_96, bg2_97, nx2_98, -1, lz2_106, fc2_107, (1 : Int32)) rfl (by decide) (show (0 ≤ lz2_106.toInt ∧ lz2_106.toInt ≤ 400) ∧ (-1 ≤ ((-1) : Int32).toInt) ∧ (0 ≤ nx2_98.toInt ∧ nx2_98.toInt ≤ 400) ∧ (0 ≤ bg2_97.toInt ∧ bg2_97.toInt ≤ 400) ∧ (zKd kd2_96.toInt bg2_97.toInt nx2_98.toInt) ∧ (zTk fb ln.toInt kd2_96.toInt bg2_97.toInt nx2_98.toInt) ∧ (1 = 1 ∧ zAtom fb ln.toInt 3 bg.toInt (.ok bg2_97.toInt) ∧ (-1) = (-1) ∨ 1 = 0 ∧ zAtom fb ln.toInt 3 bg.toInt (.bad ((-1) : Int32).toInt)) from ⟨(by first | assumption | omega | exact Or.inl (by decide) | exact Or.inr (by omega)), (by decide), (by first | assumption | omega | exact Or.inl (by decide) | exact Or.inr (by omega)), (by first | assumption | omega | exact Or.inl (by decide) | exact Or.inr (by omega)), (by first | assumption | omega | exact Or.inl (by decide) | exact Or.inr (by omega)), (by assumption), (Or.inl ⟨rfl, zAt_pl (zor_n hq2_k hq15_k) (zPl_all (zor_n hq31_k hq42_k) hq56_k (Or.inr hq86_k) (zMv_mk hq56_5 hq91_3) hq103_k), rfl⟩)⟩) hP hD
                · skip
                  refine lv_if_ne (tgt := 168) hx hb dX2_readAtom_163 (by decide) (fun c110 => absurd (by decide) c110) (fun _ => ?_)
                  refine lv_iconst (v := 0) hx hb dX2_readAtom_166 (by decide) ?_
                  have hP : va_P g.1 vwCl (List.flatten [bLT g lt ta lo, bTape g ta ab sz ln kd2_96 bg2_97 nx2_98 ft2_99 fb, bLaw g lo lc lz2_100 ll lm lg ld fc2_101]) H := hP
                  have hD : va_D A (List.flatten [bLT g lt ta lo, bTape g ta ab sz ln kd2_96 bg2_97 nx2_98 ft2_99 fb, bLaw g lo lc lz2_100 ll lm lg ld fc2_101]) := hD
                  exact mret_z hx hb hr hlocks hS (Nat.le_of_ble_eq_true rfl) (Nat.le_of_ble_eq_true rfl) dX2_readAtom_167 (kd2_96, bg2_97, nx2_98, ft2_99, lz2_100, fc2_101, (0 : Int32)) rfl (by decide) (show (0 ≤ lz2_100.toInt ∧ lz2_100.toInt ≤ 400) ∧ (-1 ≤ ft2_99.toInt) ∧ (0 ≤ nx2_98.toInt ∧ nx2_98.toInt ≤ 400) ∧ (0 ≤ bg2_97.toInt ∧ bg2_97.toInt ≤ 400) ∧ (zKd kd2_96.toInt bg2_97.toInt nx2_98.toInt) ∧ (zTk fb ln.toInt kd2_96.toInt bg2_97.toInt nx2_98.toInt) ∧ (0 = 1 ∧ zAtom fb ln.toInt 3 bg.toInt (.ok bg2_97.toInt) ∧ (-1) = ft2_99 ∨ 0 = 0 ∧ zAtom fb ln.toInt 3 bg.toInt (.bad ft2_99.toInt)) from ⟨(by first | assumption | omega | exact Or.inl (by decide) | exact Or.inr (by omega)), (by first | decide | omega), (by first | assumption | omega | exact Or.inl (by decide) | exact Or.inr (by omega)), (by first | assumption | omega | exact Or.inl (by decide) | exact Or.inr (by omega)), (by first | assumption | omega | exact Or.inl (by decide) | exact Or.inr (by omega)), (by assumption), (Or.inr ⟨rfl, zAt_pl (zor_n hq2_k hq15_k) (zPl_all (zor_n hq31_k hq42_k) hq56_k (Or.inr hq86_k) (zMv_mk hq56_5 hq91_3) hq103_k)⟩)⟩) hP hD
              · skip
                refine lv_if_ne (tgt := 141) hx hb dX2_readAtom_130 (by decide) (fun c111 => absurd (by decide) c111) (fun _ => ?_)
                refine lv_aload_n hx hb dX2_readAtom_133 rfl (lv_at hl 1 rfl) ?_
                refine va_get (D := g.1) (ci := 2) (v := .ref ta) (C := RX2) (T := TX2) (N := 2) hx hb hts izRX2 hown hK hP 0 rfl rfl 0 (by decide) (hts _ k290) (fun x9 h9 => u_same (hts _ k291) x9 h9) rfl dX2_readAtom_134 ?_
                refine mcallV' (g := g) (q0 := 0) (ci := 6) (As := []) (rest := []) St hK hT hA hP hD hS hl.1 [2] [0, 1] rfl rfl rfl (c_t_refuseF l g ta ab sz ln kd2_49 bg2_50 nx2_51 fb ) (cwV 0 hts (zgL (zl4 k303 k279 k280 k277) k269) rfl rfl rfl (by decide +kernel) ⟨Nat.le_of_ble_eq_true rfl, Nat.le_of_ble_eq_true rfl⟩) rfl rfl rfl rfl (Nat.le_of_ble_eq_true rfl) dX2_readAtom_137 ⟨(Nat.le_of_ble_eq_true rfl), (Nat.le_of_ble_eq_true rfl)⟩ (fun _u H locs hq112 hP hD hS => ?_)
                have hP : va_P g.1 vwCl (List.flatten [bLT g lt ta lo, bLaw g lo lc lz2_53 ll lm lg ld fc2_54, bTape g ta ab sz ln kd2_49 bg2_50 nx2_51 bg2_50 fb]) H := hP
                have hD : va_D A (List.flatten [bLT g lt ta lo, bLaw g lo lc lz2_53 ll lm lg ld fc2_54, bTape g ta ab sz ln kd2_49 bg2_50 nx2_51 bg2_50 fb]) := hD
                refine W.widen (k := 0) (n := 0) (Nat.le_of_ble_eq_true rfl) (Nat.le_of_ble_eq_true rfl) ?_
                refine W.eq (g2 := F0 m 140 ls [.int 0]) rfl ?_
                have hP : va_P g.1 vwCl (List.flatten [bLT g lt ta lo, bLaw g lo lc lz2_53 ll lm lg ld fc2_54, bTape g ta ab sz ln kd2_49 bg2_50 nx2_51 bg2_50 fb]) H := hP
                have hD : va_D A (List.flatten [bLT g lt ta lo, bLaw g lo lc lz2_53 ll lm lg ld fc2_54, bTape g ta ab sz ln kd2_49 bg2_50 nx2_51 bg2_50 fb]) := hD
                obtain ⟨hP, hD⟩ := zord (g := g) (Bs' := [bLT g lt ta lo, bTape g ta ab sz ln kd2_49 bg2_50 nx2_51 bg2_50 fb, bLaw g lo lc lz2_53 ll lm lg ld fc2_54]) [0, 2, 1] rfl rfl hP hD
                exact mret_z hx hb hr hlocks hS (Nat.le_of_ble_eq_true rfl) (Nat.le_of_ble_eq_true rfl) dX2_readAtom_140 (kd2_49, bg2_50, nx2_51, bg2_50, lz2_53, fc2_54, (0 : Int32)) rfl (by decide) (show (0 ≤ lz2_53.toInt ∧ lz2_53.toInt ≤ 400) ∧ (-1 ≤ bg2_50.toInt) ∧ (0 ≤ nx2_51.toInt ∧ nx2_51.toInt ≤ 400) ∧ (0 ≤ bg2_50.toInt ∧ bg2_50.toInt ≤ 400) ∧ (zKd kd2_49.toInt bg2_50.toInt nx2_51.toInt) ∧ (zTk fb ln.toInt kd2_49.toInt bg2_50.toInt nx2_51.toInt) ∧ (0 = 1 ∧ zAtom fb ln.toInt 3 bg.toInt (.ok bg2_50.toInt) ∧ (-1) = bg2_50 ∨ 0 = 0 ∧ zAtom fb ln.toInt 3 bg.toInt (.bad bg2_50.toInt)) from ⟨(by first | assumption | omega | exact Or.inl (by decide) | exact Or.inr (by omega)), (by first | decide | omega), (by first | assumption | omega | exact Or.inl (by decide) | exact Or.inr (by omega)), (by first | assumption | omega | exact Or.inl (by decide) | exact Or.inr (by omega)), (by first | assumption | omega | exact Or.inl (by decide) | exact Or.inr (by omega)), (by assumption), (Or.inr ⟨rfl, zAt_pl (zor_n hq2_k hq15_k) (.bad2 (zor_n hq31_k hq42_k) hq56_k (zor_n hq59_k hq86_k))⟩)⟩) hP hD
          · skip
            refine lv_if_ne (tgt := 107) hx hb dX2_readAtom_102 (by decide) (fun c113 => absurd (by decide) c113) (fun _ => ?_)
            refine lv_iconst (v := 0) hx hb dX2_readAtom_105 (by decide) ?_
            have hP : va_P g.1 vwCl (List.flatten [bLT g lt ta lo, bTape g ta ab sz ln kd2_49 bg2_50 nx2_51 ft2_52 fb, bLaw g lo lc lz2_53 ll lm lg ld fc2_54]) H := hP
            have hD : va_D A (List.flatten [bLT g lt ta lo, bTape g ta ab sz ln kd2_49 bg2_50 nx2_51 ft2_52 fb, bLaw g lo lc lz2_53 ll lm lg ld fc2_54]) := hD
            exact mret_z hx hb hr hlocks hS (Nat.le_of_ble_eq_true rfl) (Nat.le_of_ble_eq_true rfl) dX2_readAtom_106 (kd2_49, bg2_50, nx2_51, ft2_52, lz2_53, fc2_54, (0 : Int32)) rfl (by decide) (show (0 ≤ lz2_53.toInt ∧ lz2_53.toInt ≤ 400) ∧ (-1 ≤ ft2_52.toInt) ∧ (0 ≤ nx2_51.toInt ∧ nx2_51.toInt ≤ 400) ∧ (0 ≤ bg2_50.toInt ∧ bg2_50.toInt ≤ 400) ∧ (zKd kd2_49.toInt bg2_50.toInt nx2_51.toInt) ∧ (zTk fb ln.toInt kd2_49.toInt bg2_50.toInt nx2_51.toInt) ∧ (0 = 1 ∧ zAtom fb ln.toInt 3 bg.toInt (.ok bg2_50.toInt) ∧ (-1) = ft2_52 ∨ 0 = 0 ∧ zAtom fb ln.toInt 3 bg.toInt (.bad ft2_52.toInt)) from ⟨(by first | assumption | omega | exact Or.inl (by decide) | exact Or.inr (by omega)), (by first | decide | omega), (by first | assumption | omega | exact Or.inl (by decide) | exact Or.inr (by omega)), (by first | assumption | omega | exact Or.inl (by decide) | exact Or.inr (by omega)), (by first | assumption | omega | exact Or.inl (by decide) | exact Or.inr (by omega)), (by assumption), (Or.inr ⟨rfl, zAt_pl (zor_n hq2_k hq15_k) (.bad1 (zor_n hq31_k hq42_k) hq56_k)⟩)⟩) hP hD
set_option maxRecDepth 100000 in
set_option maxHeartbeats 4000000 in
theorem c_lt_readCondition3F (l : Launch) (g : zG) (lt : Nat) (ta : Nat) (lo : Nat) (ab : Nat) (sz : Int32) (ln : Int32) (kd : Int32) (bg : Int32) (nx : Int32) (fb : Nat → Int32) (lc : Nat) (lz : Int32) (ll : Int32) (lm : Int32) (lg : Int32) (ld : Int32) (fc : Nat → Int32) (b_lz : 0 ≤ lz.toInt ∧ lz.toInt ≤ 400) (hln : 0 ≤ ln.toInt ∧ ln.toInt ≤ 400) (hnx : 0 ≤ nx.toInt ∧ nx.toInt ≤ 400) (hbg : 0 ≤ bg.toInt ∧ bg.toInt ≤ 400) (hkd : zKd kd.toInt bg.toInt nx.toInt) (hTk : zTk fb ln.toInt kd.toInt bg.toInt nx.toInt) : zM' g l yX2_readCondition (Cond.code yX2_readCondition cX2_readCondition 5 (some .boolean) :: zB) ({ frames := 16, cells := 0, slots := 0, locals := 353 } : Room) [.ref lt, .int 3] [bLT g lt ta lo, bTape g ta ab sz ln kd bg nx (-1) fb, bLaw g lo lc lz ll lm lg ld fc] (fun u : Int32 × Int32 × Int32 × Int32 × Int32 × (Nat → Int32) × Int32 => (fun (kd2 : Int32) (bg2 : Int32) (nx2 : Int32) (ft2 : Int32) (lz2 : Int32) (fc2 : Nat → Int32) (q : Int32) => some (.int q)) (u.1) (u.2.1) (u.2.2.1) (u.2.2.2.1) (u.2.2.2.2.1) (u.2.2.2.2.2.1) (u.2.2.2.2.2.2)) (fun u : Int32 × Int32 × Int32 × Int32 × Int32 × (Nat → Int32) × Int32 => (fun (kd2 : Int32) (bg2 : Int32) (nx2 : Int32) (ft2 : Int32) (lz2 : Int32) (fc2 : Nat → Int32) (q : Int32) => (0 ≤ lz2.toInt ∧ lz2.toInt ≤ 400) ∧ (-1 ≤ ft2.toInt) ∧ (0 ≤ nx2.toInt ∧ nx2.toInt ≤ 400) ∧ (0 ≤ bg2.toInt ∧ bg2.toInt ≤ 400) ∧ (zKd kd2.toInt bg2.toInt nx2.toInt) ∧ (zTk fb ln.toInt kd2.toInt bg2.toInt nx2.toInt) ∧ (q = 1 ∧ zCond fb ln.toInt (zAtom fb ln.toInt 3) bg.toInt (.ok bg2.toInt) ∧ (-1) = ft2 ∨ q = 0 ∧ zCond fb ln.toInt (zAtom fb ln.toInt 3) bg.toInt (.bad ft2.toInt))) (u.1) (u.2.1) (u.2.2.1) (u.2.2.2.1) (u.2.2.2.2.1) (u.2.2.2.2.2.1) (u.2.2.2.2.2.2)) (fun u : Int32 × Int32 × Int32 × Int32 × Int32 × (Nat → Int32) × Int32 => (fun (kd2 : Int32) (bg2 : Int32) (nx2 : Int32) (ft2 : Int32) (lz2 : Int32) (fc2 : Nat → Int32) (q : Int32) => [bLT g lt ta lo, bTape g ta ab sz ln kd2 bg2 nx2 ft2 fb, bLaw g lo lc lz2 ll lm lg ld fc2]) (u.1) (u.2.1) (u.2.2.1) (u.2.2.2.1) (u.2.2.2.2.1) (u.2.2.2.2.2.1) (u.2.2.2.2.2.2)) := by
  refine zM'.of (cc := cX2_readCondition) (maxL := 5) (rt := (some .boolean)) (by decide) rfl (Nat.le_of_ble_eq_true rfl) ?_
  intro p e s m args below meth c A ls St hr hlocks hin hK hT hA hP hD hS hl
  obtain ⟨hx, hb, hml, hown, hts⟩ := id St
  have hl : lv_has ls 5 [(0, .ref lt), (1, .int 3)] := hl
  refine lv_iconst (v := (-1)) hx hb dX2_readCondition_0 (by decide) ?_
  refine lv_istore_n (lv' := [(2, .int (-1)), (0, .ref lt), (1, .int 3)]) hx hb dX2_readCondition_1 rfl hl (by decide) rfl (fun ls hl => ?_)
  refine lv_iconst (v := (-1)) hx hb dX2_readCondition_2 (by decide) ?_
  refine lv_istore_n (lv' := [(3, .int (-1)), (2, .int (-1)), (0, .ref lt), (1, .int 3)]) hx hb dX2_readCondition_3 rfl hl (by decide) rfl (fun ls hl => ?_)
  refine lv_iconst (v := 0) hx hb dX2_readCondition_4 (by decide) ?_
  refine lv_istore (lv' := [(4, .int 0), (3, .int (-1)), (2, .int (-1)), (0, .ref lt), (1, .int 3)]) hx hb dX2_readCondition_5 hl (by decide) rfl (fun ls hl => ?_)
  have hl := lv_sub (l' := [(0, .ref lt), (1, .int 3), (2, .int (-1)), (3, .int (-1)), (4, .int 0)]) hl [3, 4, 2, 1, 0] rfl
  have LP7_17 : ∀ (kf : Nat) (x_1 : Int32) (x_2 : Int32) (x_3 : Int32) (x_4 : Int32) (x_5 : Int32) (x_6 : Int32) (x_7 : Int32) (fc_8 : Nat → Int32), (0 ≤ x_3.toInt ∧ x_3.toInt ≤ 400) → (0 ≤ x_5.toInt ∧ x_5.toInt ≤ 400) → (0 ≤ x_6.toInt ∧ x_6.toInt ≤ 400) → (0 ≤ x_7.toInt ∧ x_7.toInt ≤ 400) → (zKd x_4.toInt x_5.toInt x_6.toInt) → (zTk fb ln.toInt x_4.toInt x_5.toInt x_6.toInt) → (x_3.toInt ≤ x_5.toInt) → (∀ r9, zCond fb ln.toInt (zAtom fb ln.toInt 3) x_5.toInt r9 → zCond fb ln.toInt (zAtom fb ln.toInt 3) bg.toInt r9) → ∀ (H : Heap) (locs : List Loc) (ls : Array Slot), ((401 - x_3.toInt).toNat) < kf → va_P g.1 vwCl (List.flatten [bLT g lt ta lo, bTape g ta ab sz ln x_4 x_5 x_6 (-1) fb, bLaw g lo lc x_7 ll lm lg ld fc_8]) H → va_D A (List.flatten [bLT g lt ta lo, bTape g ta ab sz ln x_4 x_5 x_6 (-1) fb, bLaw g lo lc x_7 ll lm lg ld fc_8]) → va_S A s.heap H locs → lv_has ls 5 [(0, .ref lt), (1, .int 3), (2, .int x_1), (3, .int x_2), (4, .int x_3)] → W p l e ({ frames := 16, cells := 0, slots := 0, locals := 353 } : Room) s m args below meth c H locs (0) (0) (zF g (fun u : Int32 × Int32 × Int32 × Int32 × Int32 × (Nat → Int32) × Int32 => (fun (kd2 : Int32) (bg2 : Int32) (nx2 : Int32) (ft2 : Int32) (lz2 : Int32) (fc2 : Nat → Int32) (q : Int32) => some (.int q)) (u.1) (u.2.1) (u.2.2.1) (u.2.2.2.1) (u.2.2.2.2.1) (u.2.2.2.2.2.1) (u.2.2.2.2.2.2)) (fun u : Int32 × Int32 × Int32 × Int32 × Int32 × (Nat → Int32) × Int32 => (fun (kd2 : Int32) (bg2 : Int32) (nx2 : Int32) (ft2 : Int32) (lz2 : Int32) (fc2 : Nat → Int32) (q : Int32) => (0 ≤ lz2.toInt ∧ lz2.toInt ≤ 400) ∧ (-1 ≤ ft2.toInt) ∧ (0 ≤ nx2.toInt ∧ nx2.toInt ≤ 400) ∧ (0 ≤ bg2.toInt ∧ bg2.toInt ≤ 400) ∧ (zKd kd2.toInt bg2.toInt nx2.toInt) ∧ (zTk fb ln.toInt kd2.toInt bg2.toInt nx2.toInt) ∧ (q = 1 ∧ zCond fb ln.toInt (zAtom fb ln.toInt 3) bg.toInt (.ok bg2.toInt) ∧ (-1) = ft2 ∨ q = 0 ∧ zCond fb ln.toInt (zAtom fb ln.toInt 3) bg.toInt (.bad ft2.toInt))) (u.1) (u.2.1) (u.2.2.1) (u.2.2.2.1) (u.2.2.2.2.1) (u.2.2.2.2.2.1) (u.2.2.2.2.2.2)) (fun u : Int32 × Int32 × Int32 × Int32 × Int32 × (Nat → Int32) × Int32 => (fun (kd2 : Int32) (bg2 : Int32) (nx2 : Int32) (ft2 : Int32) (lz2 : Int32) (fc2 : Nat → Int32) (q : Int32) => [bLT g lt ta lo, bTape g ta ab sz ln kd2 bg2 nx2 ft2 fb, bLaw g lo lc lz2 ll lm lg ld fc2]) (u.1) (u.2.1) (u.2.2.1) (u.2.2.2.1) (u.2.2.2.2.1) (u.2.2.2.2.2.1) (u.2.2.2.2.2.2)) ({ frames := 16, cells := 0, slots := 0, locals := 353 } : Room) below args s A) (F0 m 7 ls []) := by
    intro kf
    induction kf with
    | zero => intro x_1 x_2 x_3 x_4 x_5 x_6 x_7 fc_8 i9 i10 i11 i12 i13 i14 i15 i16 H locs ls hk; exact absurd hk (Nat.not_lt_zero _)
    | succ kf ih7_18 =>
      intro x_1 x_2 x_3 x_4 x_5 x_6 x_7 fc_8 i9 i10 i11 i12 i13 i14 i15 i16 H locs ls hk7_18 hP hD hS hl
      refine lv_iload hx hb dX2_readCondition_7 (lv_at hl 4 rfl) ?_
      refine lv_sipush (v := 400) hx hb dX2_readCondition_9 (by decide) ?_
      refine lv_icmp_ge (tgt := 100) hx hb dX2_readCondition_12 (by decide) (fun cb9 => ?_) (fun cb9 => ?_)
      · skip
        have c19 : 400 ≤ x_3.toInt := zle cb9 (by decide) rfl
        have n20 : 400 ≤ x_3.toInt := Int.le_trans (Int.le_refl _) c19
        refine lv_aload_n hx hb dX2_readCondition_100 rfl (lv_at hl 0 rfl) ?_
        refine va_get (D := g.1) (ci := 2) (v := .ref ta) (C := RX2) (T := TX2) (N := 2) hx hb hts izRX2 hown hK hP 0 rfl rfl 0 (by decide) (hts _ k290) (fun x9 h9 => u_same (hts _ k291) x9 h9) rfl dX2_readCondition_101 ?_
        refine mcallV' (g := g) (q0 := 0) (ci := 6) (As := []) (rest := []) St hK hT hA hP hD hS hl.1 [1] [0, 2] rfl rfl rfl (c_t_refuseF l g ta ab sz ln x_4 x_5 x_6 fb ) (cwV 0 hts (zgL (zl4 k303 k279 k280 k277) k269) rfl rfl rfl (by decide +kernel) ⟨Nat.le_of_ble_eq_true rfl, Nat.le_of_ble_eq_true rfl⟩) rfl rfl rfl rfl (Nat.le_of_ble_eq_true rfl) dX2_readCondition_104 ⟨(Nat.le_of_ble_eq_true rfl), (Nat.le_of_ble_eq_true rfl)⟩ (fun _u H locs hq21 hP hD hS => ?_)
        have hP : va_P g.1 vwCl (List.flatten [bLT g lt ta lo, bLaw g lo lc x_7 ll lm lg ld fc_8, bTape g ta ab sz ln x_4 x_5 x_6 x_5 fb]) H := hP
        have hD : va_D A (List.flatten [bLT g lt ta lo, bLaw g lo lc x_7 ll lm lg ld fc_8, bTape g ta ab sz ln x_4 x_5 x_6 x_5 fb]) := hD
        refine W.widen (k := 0) (n := 0) (Nat.le_of_ble_eq_true rfl) (Nat.le_of_ble_eq_true rfl) ?_
        refine W.eq (g2 := F0 m 107 ls [.int 0]) rfl ?_
        have hP : va_P g.1 vwCl (List.flatten [bLT g lt ta lo, bLaw g lo lc x_7 ll lm lg ld fc_8, bTape g ta ab sz ln x_4 x_5 x_6 x_5 fb]) H := hP
        have hD : va_D A (List.flatten [bLT g lt ta lo, bLaw g lo lc x_7 ll lm lg ld fc_8, bTape g ta ab sz ln x_4 x_5 x_6 x_5 fb]) := hD
        obtain ⟨hP, hD⟩ := zord (g := g) (Bs' := [bLT g lt ta lo, bTape g ta ab sz ln x_4 x_5 x_6 x_5 fb, bLaw g lo lc x_7 ll lm lg ld fc_8]) [0, 2, 1] rfl rfl hP hD
        exact mret_z hx hb hr hlocks hS (Nat.le_of_ble_eq_true rfl) (Nat.le_of_ble_eq_true rfl) dX2_readCondition_107 (x_4, x_5, x_6, x_5, x_7, fc_8, (0 : Int32)) rfl (by decide) (show (0 ≤ x_7.toInt ∧ x_7.toInt ≤ 400) ∧ (-1 ≤ x_5.toInt) ∧ (0 ≤ x_6.toInt ∧ x_6.toInt ≤ 400) ∧ (0 ≤ x_5.toInt ∧ x_5.toInt ≤ 400) ∧ (zKd x_4.toInt x_5.toInt x_6.toInt) ∧ (zTk fb ln.toInt x_4.toInt x_5.toInt x_6.toInt) ∧ (0 = 1 ∧ zCond fb ln.toInt (zAtom fb ln.toInt 3) bg.toInt (.ok x_5.toInt) ∧ (-1) = x_5 ∨ 0 = 0 ∧ zCond fb ln.toInt (zAtom fb ln.toInt 3) bg.toInt (.bad x_5.toInt)) from ⟨(by first | assumption | omega | exact Or.inl (by decide) | exact Or.inr (by omega)), (by first | decide | omega), (by first | assumption | omega | exact Or.inl (by decide) | exact Or.inr (by omega)), (by first | assumption | omega | exact Or.inl (by decide) | exact Or.inr (by omega)), (by first | assumption | omega | exact Or.inl (by decide) | exact Or.inr (by omega)), (by assumption), (Or.inr ⟨rfl, i16 _ (.wrong (zAt_e (by omega)))⟩)⟩) hP hD
      · skip
        have c22 : x_3.toInt < 400 := zlti (Int32.not_le.mp cb9) rfl (by decide)
        have n23 : x_3.toInt ≤ 399 := zL1 (b := 400) c22 (Int.le_refl _) (by decide)
        refine lv_aload_n hx hb dX2_readCondition_15 rfl (lv_at hl 0 rfl) ?_
        refine lv_iload_n hx hb dX2_readCondition_16 rfl (lv_at hl 1 rfl) ?_
        refine mcallV' (g := g) (q0 := 0) (ci := 2) (As := [.int 3]) (rest := []) St hK hT hA hP hD hS hl.1 [0, 1, 2] [] rfl rfl rfl (c_lt_readAtom3F l g lt ta lo ab sz ln x_4 x_5 x_6 fb lc x_7 ll lm lg ld fc_8 i12 hln i11 i10 i13 i14) (cwV 1 hts (zgL (zl4 k317 k318 k319 k309) k327) rfl rfl rfl (by decide +kernel) ⟨Nat.le_of_ble_eq_true rfl, Nat.le_of_ble_eq_true rfl⟩) rfl rfl rfl rfl (Nat.le_of_ble_eq_true rfl) dX2_readCondition_17 ⟨(Nat.le_of_ble_eq_true rfl), (Nat.le_of_ble_eq_true rfl)⟩ (fun u_ H locs hq31 hP hD hS => ?_)
        obtain ⟨kd2_24, bg2_25, nx2_26, ft2_27, lz2_28, fc2_29, q_30⟩ := u_
        replace hq31 : (0 ≤ lz2_28.toInt ∧ lz2_28.toInt ≤ 400) ∧ (-1 ≤ ft2_27.toInt) ∧ (0 ≤ nx2_26.toInt ∧ nx2_26.toInt ≤ 400) ∧ (0 ≤ bg2_25.toInt ∧ bg2_25.toInt ≤ 400) ∧ (zKd kd2_24.toInt bg2_25.toInt nx2_26.toInt) ∧ (zTk fb ln.toInt kd2_24.toInt bg2_25.toInt nx2_26.toInt) ∧ (q_30 = 1 ∧ zAtom fb ln.toInt 3 x_5.toInt (.ok bg2_25.toInt) ∧ (-1) = ft2_27 ∨ q_30 = 0 ∧ zAtom fb ln.toInt 3 x_5.toInt (.bad ft2_27.toInt)) := hq31
        have hP : va_P g.1 vwCl (List.flatten [bLT g lt ta lo, bTape g ta ab sz ln kd2_24 bg2_25 nx2_26 ft2_27 fb, bLaw g lo lc lz2_28 ll lm lg ld fc2_29]) H := hP
        have hD : va_D A (List.flatten [bLT g lt ta lo, bTape g ta ab sz ln kd2_24 bg2_25 nx2_26 ft2_27 fb, bLaw g lo lc lz2_28 ll lm lg ld fc2_29]) := hD
        refine W.widen (k := 0) (n := 0) (Nat.le_of_ble_eq_true rfl) (Nat.le_of_ble_eq_true rfl) ?_
        refine W.eq (g2 := F0 m 20 ls [.int q_30]) rfl ?_
        obtain ⟨hq31_0, hq31_1, hq31_2, hq31_3, hq31_4, hq31_5, hq31_6⟩ := hq31
        rcases hq31_6 with ⟨rfl, hq31_k, rfl⟩ | ⟨rfl, hq31_k⟩
        · skip
          refine lv_if_ne (tgt := 25) hx hb dX2_readCondition_20 (by decide) (fun _ => ?_) (fun c32 => absurd c32 (by decide))
          refine lv_aload_n hx hb dX2_readCondition_25 rfl (lv_at hl 0 rfl) ?_
          refine va_get (D := g.1) (ci := 2) (v := .ref lo) (C := RX2) (T := TX2) (N := 2) hx hb hts izRX2 hown hK hP 0 rfl rfl 1 (by decide) (hts _ k210) (fun _ h9 => h9) rfl dX2_readCondition_26 ?_
          refine lv_iload_n hx hb dX2_readCondition_29 rfl (lv_at hl 3 rfl) ?_
          refine mcallV' (g := g) (q0 := 0) (ci := 1) (As := [.int x_2]) (rest := []) St hK hT hA hP hD hS hl.1 [2] [0, 1] rfl rfl rfl (c_l_aim l g lo lc lz2_28 ll lm lg ld fc2_29 x_2 hq31_0) (cwV 1 hts (zgL (zl4 k320 k321 k322 k85) k203) rfl rfl rfl (by decide +kernel) ⟨Nat.le_of_ble_eq_true rfl, Nat.le_of_ble_eq_true rfl⟩) rfl rfl rfl rfl (Nat.le_of_ble_eq_true rfl) dX2_readCondition_30 ⟨(Nat.le_of_ble_eq_true rfl), (Nat.le_of_ble_eq_true rfl)⟩ (fun fc2_33 H locs hq34 hP hD hS => ?_)
          have hP : va_P g.1 vwCl (List.flatten [bLT g lt ta lo, bTape g ta ab sz ln kd2_24 bg2_25 nx2_26 (-1) fb, bLaw g lo lc lz2_28 ll lm lg ld fc2_33]) H := hP
          have hD : va_D A (List.flatten [bLT g lt ta lo, bTape g ta ab sz ln kd2_24 bg2_25 nx2_26 (-1) fb, bLaw g lo lc lz2_28 ll lm lg ld fc2_33]) := hD
          refine W.widen (k := 0) (n := 0) (Nat.le_of_ble_eq_true rfl) (Nat.le_of_ble_eq_true rfl) ?_
          refine W.eq (g2 := F0 m 33 ls []) rfl ?_
          refine lv_iconst (v := (-1)) hx hb dX2_readCondition_33 (by decide) ?_
          refine lv_istore_n (lv' := [(3, .int (-1)), (0, .ref lt), (1, .int 3), (2, .int x_1), (4, .int x_3)]) hx hb dX2_readCondition_34 rfl hl (by decide) rfl (fun ls hl => ?_)
          refine lv_aload_n hx hb dX2_readCondition_35 rfl (lv_at hl 1 rfl) ?_
          refine va_get (D := g.1) (ci := 2) (v := .ref ta) (C := RX2) (T := TX2) (N := 2) hx hb hts izRX2 hown hK hP 0 rfl rfl 0 (by decide) (hts _ k290) (fun x9 h9 => u_same (hts _ k291) x9 h9) rfl dX2_readCondition_36 ?_
          refine va_ldcS (q := g.2 16) hx hb hown (zra3 hT.2.1) dX2_readCondition_39 ?_
          refine mcallV' (g := g) (q0 := 0) (ci := 6) (As := [.ref (g.2 16)]) (rest := []) St hK hT hA hP hD hS hl.1 [1] [0, 2] rfl rfl rfl (c_t_takeWordF l g ta ab sz ln kd2_24 bg2_25 nx2_26 (-1) fb (g.2 16) 3 zqa3 hln hq31_2 hq31_3 hq31_4 hq31_5 rfl zla3 zna3 (zlitB zla3)) (cwV 1 hts (zgL (zl4 k310 k311 k312 k277) k284) rfl rfl rfl (by decide +kernel) ⟨Nat.le_of_ble_eq_true rfl, Nat.le_of_ble_eq_true rfl⟩) rfl rfl rfl rfl (Nat.le_of_ble_eq_true rfl) dX2_readCondition_41 ⟨(Nat.le_of_ble_eq_true rfl), (Nat.le_of_ble_eq_true rfl)⟩ (fun u_ H locs hq39 hP hD hS => ?_)
          obtain ⟨kd2_35, bg2_36, nx2_37, r_38⟩ := u_
          replace hq39 : (0 ≤ nx2_37.toInt ∧ nx2_37.toInt ≤ 400) ∧ (0 ≤ bg2_36.toInt ∧ bg2_36.toInt ≤ 400) ∧ (zKd kd2_35.toInt bg2_36.toInt nx2_37.toInt) ∧ (zTk fb ln.toInt kd2_35.toInt bg2_36.toInt nx2_37.toInt) ∧ (r_38 = 1 ∧ zisW fb ln.toInt bg2_25.toInt zqa3.2.2.2 ∧ zMv fb ln.toInt bg2_25.toInt bg2_36.toInt ∨ r_38 = 0 ∧ ¬ zisW fb ln.toInt bg2_25.toInt zqa3.2.2.2 ∧ kd2_24 = kd2_35 ∧ bg2_25 = bg2_36 ∧ nx2_26 = nx2_37) := hq39
          have hP : va_P g.1 vwCl (List.flatten [bLT g lt ta lo, bLaw g lo lc lz2_28 ll lm lg ld fc2_33, bTape g ta ab sz ln kd2_35 bg2_36 nx2_37 (-1) fb]) H := hP
          have hD : va_D A (List.flatten [bLT g lt ta lo, bLaw g lo lc lz2_28 ll lm lg ld fc2_33, bTape g ta ab sz ln kd2_35 bg2_36 nx2_37 (-1) fb]) := hD
          refine W.widen (k := 0) (n := 0) (Nat.le_of_ble_eq_true rfl) (Nat.le_of_ble_eq_true rfl) ?_
          refine W.eq (g2 := F0 m 44 ls [.int r_38]) rfl ?_
          obtain ⟨hq39_0, hq39_1, hq39_2, hq39_3, hq39_4⟩ := hq39
          rcases hq39_4 with ⟨rfl, hq39_k, hq39_km⟩ | ⟨rfl, hq39_k, rfl, rfl, rfl⟩
          · skip
            refine lv_if_eq (tgt := 61) hx hb dX2_readCondition_44 (by decide) (fun c40 => absurd c40 (by decide)) (fun _ => ?_)
            refine lv_aload_n hx hb dX2_readCondition_47 rfl (lv_at hl 1 rfl) ?_
            refine va_get (D := g.1) (ci := 2) (v := .ref lo) (C := RX2) (T := TX2) (N := 2) hx hb hts izRX2 hown hK hP 0 rfl rfl 1 (by decide) (hts _ k210) (fun _ h9 => h9) rfl dX2_readCondition_48 ?_
            refine lv_bipush (v := 13) hx hb dX2_readCondition_51 (by decide) ?_
            refine lv_iconst (v := 0) hx hb dX2_readCondition_53 (by decide) ?_
            refine mcallV' (g := g) (q0 := 0) (ci := 1) (As := [.int 13, .int 0]) (rest := []) St hK hT hA hP hD hS hl.1 [1] [0, 2] rfl rfl rfl (c_l_put l g lo lc lz2_28 ll lm lg ld fc2_33 13 0 hq31_0) (cwV 2 hts (zgL (zl4 k297 k298 k299 k85) k202) rfl rfl rfl (by decide +kernel) ⟨Nat.le_of_ble_eq_true rfl, Nat.le_of_ble_eq_true rfl⟩) rfl rfl rfl rfl (Nat.le_of_ble_eq_true rfl) dX2_readCondition_54 ⟨(Nat.le_of_ble_eq_true rfl), (Nat.le_of_ble_eq_true rfl)⟩ (fun u_ H locs hq44 hP hD hS => ?_)
            obtain ⟨lz2_41, fc2_42, q_43⟩ := u_
            replace hq44 : (0 ≤ lz2_41.toInt ∧ lz2_41.toInt ≤ 400) := hq44
            have hP : va_P g.1 vwCl (List.flatten [bLT g lt ta lo, bTape g ta ab sz ln kd2_35 bg2_36 nx2_37 (-1) fb, bLaw g lo lc lz2_41 ll lm lg ld fc2_42]) H := hP
            have hD : va_D A (List.flatten [bLT g lt ta lo, bTape g ta ab sz ln kd2_35 bg2_36 nx2_37 (-1) fb, bLaw g lo lc lz2_41 ll lm lg ld fc2_42]) := hD
            refine W.widen (k := 0) (n := 0) (Nat.le_of_ble_eq_true rfl) (Nat.le_of_ble_eq_true rfl) ?_
            refine W.eq (g2 := F0 m 57 ls [.int q_43]) rfl ?_
            refine lv_istore_n (lv' := [(3, .int q_43), (0, .ref lt), (1, .int 3), (2, .int x_1), (4, .int x_3)]) hx hb dX2_readCondition_57 rfl hl (by decide) rfl (fun ls hl => ?_)
            refine lv_goto (tgt := 94) hx hb dX2_readCondition_58 (by decide) ?_
            have w45 : x_5.toInt < bg2_25.toInt := zAtom_gt fb ln.toInt _ _ _ (by omega) hq31_k
            have w46 : bg2_25.toInt < bg2_36.toInt := zMv_lt (f := fb) (n := ln.toInt) (by omega) (zisW_z hq39_k) hq39_km
            have w47 : ∀ r9, zCond fb ln.toInt (zAtom fb ln.toInt 3) bg2_36.toInt r9 → zCond fb ln.toInt (zAtom fb ln.toInt 3) bg.toInt r9 := fun r9 h9 => i16 r9 (zCo_more hq31_k (Or.inl hq39_k) hq39_km h9)
            refine ziinc3 (n' := 1) (a' := 1) (b' := 400) (lv' := fun v9 => [(4, .int v9), (3, .int q_43), (0, .ref lt), (1, .int 3), (2, .int x_1)]) hx hb dX2_readCondition_94 hl (k := 4) rfl (by decide) (fun _ => rfl) (zaddK (i := x_3.toInt) (j := 1) rfl (by decide) i9.1 n23 (Int.le_refl _) (Int.le_refl _) (by decide)) (fun x_48 ls hx_48 hl => ?_)
            refine lv_goto (tgt := 7) hx hb dX2_readCondition_97 (by decide) ?_
            have hl := lv_sub (l' := [(0, .ref lt), (1, .int 3), (2, .int x_1), (3, .int q_43), (4, .int x_48)]) hl [2, 3, 4, 1, 0] rfl
            have hP : va_P g.1 vwCl (List.flatten [bLT g lt ta lo, bTape g ta ab sz ln kd2_35 bg2_36 nx2_37 (-1) fb, bLaw g lo lc lz2_41 ll lm lg ld fc2_42]) H := hP
            have hD : va_D A (List.flatten [bLT g lt ta lo, bTape g ta ab sz ln kd2_35 bg2_36 nx2_37 (-1) fb, bLaw g lo lc lz2_41 ll lm lg ld fc2_42]) := hD
            exact ih7_18 x_1 q_43 x_48 kd2_35 bg2_36 nx2_37 lz2_41 fc2_42 ⟨(Int.le_trans (by decide) hx_48.2.1), hx_48.2.2⟩ ⟨hq39_1.1, hq39_1.2⟩ ⟨hq39_0.1, hq39_0.2⟩ ⟨hq44.1, hq44.2⟩ hq39_2 hq39_3 (by first | omega | assumption | decide) w47 H _ ls (zmK hx_48.1 (by decide) n23 (by decide) hk7_18)  hP hD hS (lv_sub hl [0, 1, 2, 3, 4] rfl)
          · skip
            refine lv_if_eq (tgt := 61) hx hb dX2_readCondition_44 (by decide) (fun _ => ?_) (fun c49 => absurd (by decide) c49)
            refine lv_aload_n hx hb dX2_readCondition_61 rfl (lv_at hl 1 rfl) ?_
            refine va_get (D := g.1) (ci := 2) (v := .ref lo) (C := RX2) (T := TX2) (N := 2) hx hb hts izRX2 hown hK hP 0 rfl rfl 1 (by decide) (hts _ k210) (fun _ h9 => h9) rfl dX2_readCondition_62 ?_
            refine lv_iload_n hx hb dX2_readCondition_65 rfl (lv_at hl 3 rfl) ?_
            refine mcallV' (g := g) (q0 := 0) (ci := 1) (As := [.int x_1]) (rest := []) St hK hT hA hP hD hS hl.1 [1] [0, 2] rfl rfl rfl (c_l_aim l g lo lc lz2_28 ll lm lg ld fc2_33 x_1 hq31_0) (cwV 1 hts (zgL (zl4 k320 k321 k322 k85) k203) rfl rfl rfl (by decide +kernel) ⟨Nat.le_of_ble_eq_true rfl, Nat.le_of_ble_eq_true rfl⟩) rfl rfl rfl rfl (Nat.le_of_ble_eq_true rfl) dX2_readCondition_66 ⟨(Nat.le_of_ble_eq_true rfl), (Nat.le_of_ble_eq_true rfl)⟩ (fun fc2_50 H locs hq51 hP hD hS => ?_)
            have hP : va_P g.1 vwCl (List.flatten [bLT g lt ta lo, bTape g ta ab sz ln kd2_24 bg2_25 nx2_26 (-1) fb, bLaw g lo lc lz2_28 ll lm lg ld fc2_50]) H := hP
            have hD : va_D A (List.flatten [bLT g lt ta lo, bTape g ta ab sz ln kd2_24 bg2_25 nx2_26 (-1) fb, bLaw g lo lc lz2_28 ll lm lg ld fc2_50]) := hD
            refine W.widen (k := 0) (n := 0) (Nat.le_of_ble_eq_true rfl) (Nat.le_of_ble_eq_true rfl) ?_
            refine W.eq (g2 := F0 m 69 ls []) rfl ?_
            refine lv_aload_n hx hb dX2_readCondition_69 rfl (lv_at hl 1 rfl) ?_
            refine va_get (D := g.1) (ci := 2) (v := .ref ta) (C := RX2) (T := TX2) (N := 2) hx hb hts izRX2 hown hK hP 0 rfl rfl 0 (by decide) (hts _ k290) (fun x9 h9 => u_same (hts _ k291) x9 h9) rfl dX2_readCondition_70 ?_
            refine va_ldcS (q := g.2 18) hx hb hown (zra4 hT.2.1) dX2_readCondition_73 ?_
            refine mcallV' (g := g) (q0 := 0) (ci := 6) (As := [.ref (g.2 18)]) (rest := []) St hK hT hA hP hD hS hl.1 [1] [0, 2] rfl rfl rfl (c_t_takeWordF l g ta ab sz ln kd2_24 bg2_25 nx2_26 (-1) fb (g.2 18) 4 zqa4 hln hq31_2 hq31_3 hq31_4 hq31_5 rfl zla4 zna4 (zlitB zla4)) (cwV 1 hts (zgL (zl4 k310 k311 k312 k277) k284) rfl rfl rfl (by decide +kernel) ⟨Nat.le_of_ble_eq_true rfl, Nat.le_of_ble_eq_true rfl⟩) rfl rfl rfl rfl (Nat.le_of_ble_eq_true rfl) dX2_readCondition_75 ⟨(Nat.le_of_ble_eq_true rfl), (Nat.le_of_ble_eq_true rfl)⟩ (fun u_ H locs hq56 hP hD hS => ?_)
            obtain ⟨kd2_52, bg2_53, nx2_54, r_55⟩ := u_
            replace hq56 : (0 ≤ nx2_54.toInt ∧ nx2_54.toInt ≤ 400) ∧ (0 ≤ bg2_53.toInt ∧ bg2_53.toInt ≤ 400) ∧ (zKd kd2_52.toInt bg2_53.toInt nx2_54.toInt) ∧ (zTk fb ln.toInt kd2_52.toInt bg2_53.toInt nx2_54.toInt) ∧ (r_55 = 1 ∧ zisW fb ln.toInt bg2_25.toInt zqa4.2.2.2 ∧ zMv fb ln.toInt bg2_25.toInt bg2_53.toInt ∨ r_55 = 0 ∧ ¬ zisW fb ln.toInt bg2_25.toInt zqa4.2.2.2 ∧ kd2_24 = kd2_52 ∧ bg2_25 = bg2_53 ∧ nx2_26 = nx2_54) := hq56
            have hP : va_P g.1 vwCl (List.flatten [bLT g lt ta lo, bLaw g lo lc lz2_28 ll lm lg ld fc2_50, bTape g ta ab sz ln kd2_52 bg2_53 nx2_54 (-1) fb]) H := hP
            have hD : va_D A (List.flatten [bLT g lt ta lo, bLaw g lo lc lz2_28 ll lm lg ld fc2_50, bTape g ta ab sz ln kd2_52 bg2_53 nx2_54 (-1) fb]) := hD
            refine W.widen (k := 0) (n := 0) (Nat.le_of_ble_eq_true rfl) (Nat.le_of_ble_eq_true rfl) ?_
            refine W.eq (g2 := F0 m 78 ls [.int r_55]) rfl ?_
            obtain ⟨hq56_0, hq56_1, hq56_2, hq56_3, hq56_4⟩ := hq56
            rcases hq56_4 with ⟨rfl, hq56_k, hq56_km⟩ | ⟨rfl, hq56_k, rfl, rfl, rfl⟩
            · skip
              refine lv_if_ne (tgt := 83) hx hb dX2_readCondition_78 (by decide) (fun _ => ?_) (fun c57 => absurd c57 (by decide))
              refine lv_aload_n hx hb dX2_readCondition_83 rfl (lv_at hl 1 rfl) ?_
              refine va_get (D := g.1) (ci := 2) (v := .ref lo) (C := RX2) (T := TX2) (N := 2) hx hb hts izRX2 hown hK hP 0 rfl rfl 1 (by decide) (hts _ k210) (fun _ h9 => h9) rfl dX2_readCondition_84 ?_
              refine lv_bipush (v := 14) hx hb dX2_readCondition_87 (by decide) ?_
              refine lv_iconst (v := 0) hx hb dX2_readCondition_89 (by decide) ?_
              refine mcallV' (g := g) (q0 := 0) (ci := 1) (As := [.int 14, .int 0]) (rest := []) St hK hT hA hP hD hS hl.1 [1] [0, 2] rfl rfl rfl (c_l_put l g lo lc lz2_28 ll lm lg ld fc2_50 14 0 hq31_0) (cwV 2 hts (zgL (zl4 k297 k298 k299 k85) k202) rfl rfl rfl (by decide +kernel) ⟨Nat.le_of_ble_eq_true rfl, Nat.le_of_ble_eq_true rfl⟩) rfl rfl rfl rfl (Nat.le_of_ble_eq_true rfl) dX2_readCondition_90 ⟨(Nat.le_of_ble_eq_true rfl), (Nat.le_of_ble_eq_true rfl)⟩ (fun u_ H locs hq61 hP hD hS => ?_)
              obtain ⟨lz2_58, fc2_59, q_60⟩ := u_
              replace hq61 : (0 ≤ lz2_58.toInt ∧ lz2_58.toInt ≤ 400) := hq61
              have hP : va_P g.1 vwCl (List.flatten [bLT g lt ta lo, bTape g ta ab sz ln kd2_52 bg2_53 nx2_54 (-1) fb, bLaw g lo lc lz2_58 ll lm lg ld fc2_59]) H := hP
              have hD : va_D A (List.flatten [bLT g lt ta lo, bTape g ta ab sz ln kd2_52 bg2_53 nx2_54 (-1) fb, bLaw g lo lc lz2_58 ll lm lg ld fc2_59]) := hD
              refine W.widen (k := 0) (n := 0) (Nat.le_of_ble_eq_true rfl) (Nat.le_of_ble_eq_true rfl) ?_
              refine W.eq (g2 := F0 m 93 ls [.int q_60]) rfl ?_
              refine lv_istore_n (lv' := [(2, .int q_60), (3, .int (-1)), (0, .ref lt), (1, .int 3), (4, .int x_3)]) hx hb dX2_readCondition_93 rfl hl (by decide) rfl (fun ls hl => ?_)
              have w62 : x_5.toInt < bg2_25.toInt := zAtom_gt fb ln.toInt _ _ _ (by omega) hq31_k
              have w63 : bg2_25.toInt < bg2_53.toInt := zMv_lt (f := fb) (n := ln.toInt) (by omega) (zisW_z hq56_k) hq56_km
              have w64 : ∀ r9, zCond fb ln.toInt (zAtom fb ln.toInt 3) bg2_53.toInt r9 → zCond fb ln.toInt (zAtom fb ln.toInt 3) bg.toInt r9 := fun r9 h9 => i16 r9 (zCo_more hq31_k (Or.inr hq56_k) hq56_km h9)
              refine ziinc3 (n' := 1) (a' := 1) (b' := 400) (lv' := fun v9 => [(4, .int v9), (2, .int q_60), (3, .int (-1)), (0, .ref lt), (1, .int 3)]) hx hb dX2_readCondition_94 hl (k := 4) rfl (by decide) (fun _ => rfl) (zaddK (i := x_3.toInt) (j := 1) rfl (by decide) i9.1 n23 (Int.le_refl _) (Int.le_refl _) (by decide)) (fun x_65 ls hx_65 hl => ?_)
              refine lv_goto (tgt := 7) hx hb dX2_readCondition_97 (by decide) ?_
              have hl := lv_sub (l' := [(0, .ref lt), (1, .int 3), (2, .int q_60), (3, .int (-1)), (4, .int x_65)]) hl [3, 4, 1, 2, 0] rfl
              have hLn1 : ((-1) : Int32).toInt = (-1) := by decide
              have hP : va_P g.1 vwCl (List.flatten [bLT g lt ta lo, bTape g ta ab sz ln kd2_52 bg2_53 nx2_54 (-1) fb, bLaw g lo lc lz2_58 ll lm lg ld fc2_59]) H := hP
              have hD : va_D A (List.flatten [bLT g lt ta lo, bTape g ta ab sz ln kd2_52 bg2_53 nx2_54 (-1) fb, bLaw g lo lc lz2_58 ll lm lg ld fc2_59]) := hD
              exact ih7_18 q_60 (-1) x_65 kd2_52 bg2_53 nx2_54 lz2_58 fc2_59 ⟨(Int.le_trans (by decide) hx_65.2.1), hx_65.2.2⟩ ⟨hq56_1.1, hq56_1.2⟩ ⟨hq56_0.1, hq56_0.2⟩ ⟨hq61.1, hq61.2⟩ hq56_2 hq56_3 (by first | omega | assumption | decide) w64 H _ ls (zmK hx_65.1 (by decide) n23 (by decide) hk7_18)  hP hD hS (lv_sub hl [0, 1, 2, 3, 4] rfl)
            · skip
              refine lv_if_ne (tgt := 83) hx hb dX2_readCondition_78 (by decide) (fun c66 => absurd (by decide) c66) (fun _ => ?_)
              refine lv_iconst (v := 1) hx hb dX2_readCondition_81 (by decide) ?_
              have hP : va_P g.1 vwCl (List.flatten [bLT g lt ta lo, bLaw g lo lc lz2_28 ll lm lg ld fc2_50, bTape g ta ab sz ln kd2_24 bg2_25 nx2_26 (-1) fb]) H := hP
              have hD : va_D A (List.flatten [bLT g lt ta lo, bLaw g lo lc lz2_28 ll lm lg ld fc2_50, bTape g ta ab sz ln kd2_24 bg2_25 nx2_26 (-1) fb]) := hD
              obtain ⟨hP, hD⟩ := zord (g := g) (Bs' := [bLT g lt ta lo, bTape g ta ab sz ln kd2_24 bg2_25 nx2_26 (-1) fb, bLaw g lo lc lz2_28 ll lm lg ld fc2_50]) [0, 2, 1] rfl rfl hP hD
              exact mret_z hx hb hr hlocks hS (Nat.le_of_ble_eq_true rfl) (Nat.le_of_ble_eq_true rfl) dX2_readCondition_82 (kd2_24, bg2_25, nx2_26, -1, lz2_28, fc2_50, (1 : Int32)) rfl (by decide) (show (0 ≤ lz2_28.toInt ∧ lz2_28.toInt ≤ 400) ∧ (-1 ≤ ((-1) : Int32).toInt) ∧ (0 ≤ nx2_26.toInt ∧ nx2_26.toInt ≤ 400) ∧ (0 ≤ bg2_25.toInt ∧ bg2_25.toInt ≤ 400) ∧ (zKd kd2_24.toInt bg2_25.toInt nx2_26.toInt) ∧ (zTk fb ln.toInt kd2_24.toInt bg2_25.toInt nx2_26.toInt) ∧ (1 = 1 ∧ zCond fb ln.toInt (zAtom fb ln.toInt 3) bg.toInt (.ok bg2_25.toInt) ∧ (-1) = (-1) ∨ 1 = 0 ∧ zCond fb ln.toInt (zAtom fb ln.toInt 3) bg.toInt (.bad ((-1) : Int32).toInt)) from ⟨(by first | assumption | omega | exact Or.inl (by decide) | exact Or.inr (by omega)), (by decide), (by first | assumption | omega | exact Or.inl (by decide) | exact Or.inr (by omega)), (by first | assumption | omega | exact Or.inl (by decide) | exact Or.inr (by omega)), (by first | assumption | omega | exact Or.inl (by decide) | exact Or.inr (by omega)), (by assumption), (Or.inl ⟨rfl, i16 _ (.one hq31_k (zor_n hq39_k hq56_k)), rfl⟩)⟩) hP hD
        · skip
          refine lv_if_ne (tgt := 25) hx hb dX2_readCondition_20 (by decide) (fun c67 => absurd (by decide) c67) (fun _ => ?_)
          refine lv_iconst (v := 0) hx hb dX2_readCondition_23 (by decide) ?_
          have hP : va_P g.1 vwCl (List.flatten [bLT g lt ta lo, bTape g ta ab sz ln kd2_24 bg2_25 nx2_26 ft2_27 fb, bLaw g lo lc lz2_28 ll lm lg ld fc2_29]) H := hP
          have hD : va_D A (List.flatten [bLT g lt ta lo, bTape g ta ab sz ln kd2_24 bg2_25 nx2_26 ft2_27 fb, bLaw g lo lc lz2_28 ll lm lg ld fc2_29]) := hD
          exact mret_z hx hb hr hlocks hS (Nat.le_of_ble_eq_true rfl) (Nat.le_of_ble_eq_true rfl) dX2_readCondition_24 (kd2_24, bg2_25, nx2_26, ft2_27, lz2_28, fc2_29, (0 : Int32)) rfl (by decide) (show (0 ≤ lz2_28.toInt ∧ lz2_28.toInt ≤ 400) ∧ (-1 ≤ ft2_27.toInt) ∧ (0 ≤ nx2_26.toInt ∧ nx2_26.toInt ≤ 400) ∧ (0 ≤ bg2_25.toInt ∧ bg2_25.toInt ≤ 400) ∧ (zKd kd2_24.toInt bg2_25.toInt nx2_26.toInt) ∧ (zTk fb ln.toInt kd2_24.toInt bg2_25.toInt nx2_26.toInt) ∧ (0 = 1 ∧ zCond fb ln.toInt (zAtom fb ln.toInt 3) bg.toInt (.ok bg2_25.toInt) ∧ (-1) = ft2_27 ∨ 0 = 0 ∧ zCond fb ln.toInt (zAtom fb ln.toInt 3) bg.toInt (.bad ft2_27.toInt)) from ⟨(by first | assumption | omega | exact Or.inl (by decide) | exact Or.inr (by omega)), (by first | decide | omega), (by first | assumption | omega | exact Or.inl (by decide) | exact Or.inr (by omega)), (by first | assumption | omega | exact Or.inl (by decide) | exact Or.inr (by omega)), (by first | assumption | omega | exact Or.inl (by decide) | exact Or.inr (by omega)), (by assumption), (Or.inr ⟨rfl, i16 _ (.wrong hq31_k)⟩)⟩) hP hD
  have hLn1 : ((-1) : Int32).toInt = (-1) := by decide
  have hL0 : (0 : Int32).toInt = 0 := by decide
  have hP : va_P g.1 vwCl (List.flatten [bLT g lt ta lo, bTape g ta ab sz ln kd bg nx (-1) fb, bLaw g lo lc lz ll lm lg ld fc]) s.heap := hP
  have hD : va_D A (List.flatten [bLT g lt ta lo, bTape g ta ab sz ln kd bg nx (-1) fb, bLaw g lo lc lz ll lm lg ld fc]) := hD
  exact LP7_17 _ (-1) (-1) 0 kd bg nx lz fc (by decide) ⟨hbg.1, hbg.2⟩ ⟨hnx.1, hnx.2⟩ ⟨b_lz.1, b_lz.2⟩ hkd hTk (by first | omega | assumption | decide) (fun _ h9 => h9) s.heap _ ls (Nat.lt_succ_self _)  hP hD hS (lv_sub hl [0, 1, 2, 3, 4] rfl)
set_option maxRecDepth 100000 in
set_option maxHeartbeats 4000000 in
theorem c_lt_readDeeper3F (l : Launch) (g : zG) (lt : Nat) (ta : Nat) (lo : Nat) (ab : Nat) (sz : Int32) (ln : Int32) (kd : Int32) (bg : Int32) (nx : Int32) (fb : Nat → Int32) (lc : Nat) (lz : Int32) (ll : Int32) (lm : Int32) (lg : Int32) (ld : Int32) (fc : Nat → Int32) (b_lz : 0 ≤ lz.toInt ∧ lz.toInt ≤ 400) (hln : 0 ≤ ln.toInt ∧ ln.toInt ≤ 400) (hnx : 0 ≤ nx.toInt ∧ nx.toInt ≤ 400) (hbg : 0 ≤ bg.toInt ∧ bg.toInt ≤ 400) (hkd : zKd kd.toInt bg.toInt nx.toInt) (hTk : zTk fb ln.toInt kd.toInt bg.toInt nx.toInt) : zM' g l yX2_readDeeper (Cond.code yX2_readDeeper cX2_readDeeper 2 (some .boolean) :: zB) ({ frames := 17, cells := 0, slots := 0, locals := 377 } : Room) [.ref lt, .int 3] [bLT g lt ta lo, bTape g ta ab sz ln kd bg nx (-1) fb, bLaw g lo lc lz ll lm lg ld fc] (fun u : Int32 × Int32 × Int32 × Int32 × Int32 × (Nat → Int32) × Int32 => (fun (kd2 : Int32) (bg2 : Int32) (nx2 : Int32) (ft2 : Int32) (lz2 : Int32) (fc2 : Nat → Int32) (q : Int32) => some (.int q)) (u.1) (u.2.1) (u.2.2.1) (u.2.2.2.1) (u.2.2.2.2.1) (u.2.2.2.2.2.1) (u.2.2.2.2.2.2)) (fun u : Int32 × Int32 × Int32 × Int32 × Int32 × (Nat → Int32) × Int32 => (fun (kd2 : Int32) (bg2 : Int32) (nx2 : Int32) (ft2 : Int32) (lz2 : Int32) (fc2 : Nat → Int32) (q : Int32) => (0 ≤ lz2.toInt ∧ lz2.toInt ≤ 400) ∧ (-1 ≤ ft2.toInt) ∧ (0 ≤ nx2.toInt ∧ nx2.toInt ≤ 400) ∧ (0 ≤ bg2.toInt ∧ bg2.toInt ≤ 400) ∧ (zKd kd2.toInt bg2.toInt nx2.toInt) ∧ (zTk fb ln.toInt kd2.toInt bg2.toInt nx2.toInt) ∧ (q = 1 ∧ zDpr fb ln.toInt 3 bg.toInt (.ok bg2.toInt) ∧ (-1) = ft2 ∨ q = 0 ∧ zDpr fb ln.toInt 3 bg.toInt (.bad ft2.toInt))) (u.1) (u.2.1) (u.2.2.1) (u.2.2.2.1) (u.2.2.2.2.1) (u.2.2.2.2.2.1) (u.2.2.2.2.2.2)) (fun u : Int32 × Int32 × Int32 × Int32 × Int32 × (Nat → Int32) × Int32 => (fun (kd2 : Int32) (bg2 : Int32) (nx2 : Int32) (ft2 : Int32) (lz2 : Int32) (fc2 : Nat → Int32) (q : Int32) => [bLT g lt ta lo, bTape g ta ab sz ln kd2 bg2 nx2 ft2 fb, bLaw g lo lc lz2 ll lm lg ld fc2]) (u.1) (u.2.1) (u.2.2.1) (u.2.2.2.1) (u.2.2.2.2.1) (u.2.2.2.2.2.1) (u.2.2.2.2.2.2)) := by
  refine zM'.of (cc := cX2_readDeeper) (maxL := 2) (rt := (some .boolean)) (by decide) rfl (Nat.le_of_ble_eq_true rfl) ?_
  intro p e s m args below meth c A ls St hr hlocks hin hK hT hA hP hD hS hl
  obtain ⟨hx, hb, hml, hown, hts⟩ := id St
  have hl : lv_has ls 2 [(0, .ref lt), (1, .int 3)] := hl
  refine lv_aload_n hx hb dX2_readDeeper_0 rfl (lv_at hl 0 rfl) ?_
  refine va_get (D := g.1) (ci := 2) (v := .ref ta) (C := RX2) (T := TX2) (N := 2) hx hb hts izRX2 hown hK hP 0 rfl rfl 0 (by decide) (hts _ k290) (fun x9 h9 => u_same (hts _ k291) x9 h9) rfl dX2_readDeeper_1 ?_
  refine lv_bipush (v := 40) hx hb dX2_readDeeper_4 (by decide) ?_
  have hL40 : (40 : Int32).toInt = 40 := by decide
  refine mcallV' (g := g) (q0 := 0) (ci := 6) (As := [.int 40]) (rest := []) St hK hT hA hP hD hS hl.1 [1] [0, 2] rfl rfl rfl (c_t_takeSignF l g ta ab sz ln kd bg nx (-1) fb 40 hln hnx hbg hkd hTk) (cwV 1 hts (zgL (zl4 k300 k301 k302 k277) k286) rfl rfl rfl (by decide +kernel) ⟨Nat.le_of_ble_eq_true rfl, Nat.le_of_ble_eq_true rfl⟩) rfl rfl rfl rfl (Nat.le_of_ble_eq_true rfl) dX2_readDeeper_6 ⟨(Nat.le_of_ble_eq_true rfl), (Nat.le_of_ble_eq_true rfl)⟩ (fun u_ H locs hq5 hP hD hS => ?_)
  obtain ⟨kd2_1, bg2_2, nx2_3, q_4⟩ := u_
  replace hq5 : (0 ≤ nx2_3.toInt ∧ nx2_3.toInt ≤ 400) ∧ (0 ≤ bg2_2.toInt ∧ bg2_2.toInt ≤ 400) ∧ (zKd kd2_1.toInt bg2_2.toInt nx2_3.toInt) ∧ (zTk fb ln.toInt kd2_1.toInt bg2_2.toInt nx2_3.toInt) ∧ (q_4 = 1 ∧ zisS fb ln.toInt bg.toInt (40 : Int32).toInt ∧ zMv fb ln.toInt bg.toInt bg2_2.toInt ∨ q_4 = 0 ∧ ¬ zisS fb ln.toInt bg.toInt (40 : Int32).toInt ∧ kd = kd2_1 ∧ bg = bg2_2 ∧ nx = nx2_3) := hq5
  have hP : va_P g.1 vwCl (List.flatten [bLT g lt ta lo, bLaw g lo lc lz ll lm lg ld fc, bTape g ta ab sz ln kd2_1 bg2_2 nx2_3 (-1) fb]) H := hP
  have hD : va_D A (List.flatten [bLT g lt ta lo, bLaw g lo lc lz ll lm lg ld fc, bTape g ta ab sz ln kd2_1 bg2_2 nx2_3 (-1) fb]) := hD
  refine W.widen (k := 0) (n := 0) (Nat.le_of_ble_eq_true rfl) (Nat.le_of_ble_eq_true rfl) ?_
  refine W.eq (g2 := F0 m 9 ls [.int q_4]) rfl ?_
  obtain ⟨hq5_0, hq5_1, hq5_2, hq5_3, hq5_4⟩ := hq5
  rcases hq5_4 with ⟨rfl, hq5_k, hq5_km⟩ | ⟨rfl, hq5_k, rfl, rfl, rfl⟩
  · skip
    refine lv_if_eq (tgt := 48) hx hb dX2_readDeeper_9 (by decide) (fun c6 => absurd c6 (by decide)) (fun _ => ?_)
    refine lv_aload_n hx hb dX2_readDeeper_12 rfl (lv_at hl 0 rfl) ?_
    refine lv_iload_n hx hb dX2_readDeeper_13 rfl (lv_at hl 1 rfl) ?_
    refine mcallV' (g := g) (q0 := 0) (ci := 2) (As := [.int 3]) (rest := []) St hK hT hA hP hD hS hl.1 [0, 2, 1] [] rfl rfl rfl (c_lt_readCondition3F l g lt ta lo ab sz ln kd2_1 bg2_2 nx2_3 fb lc lz ll lm lg ld fc b_lz hln hq5_0 hq5_1 hq5_2 hq5_3) (cwV 1 hts (zgL (zl4 k324 k325 k326 k309) k316) rfl rfl rfl (by decide +kernel) ⟨Nat.le_of_ble_eq_true rfl, Nat.le_of_ble_eq_true rfl⟩) rfl rfl rfl rfl (Nat.le_of_ble_eq_true rfl) dX2_readDeeper_14 ⟨(Nat.le_of_ble_eq_true rfl), (Nat.le_of_ble_eq_true rfl)⟩ (fun u_ H locs hq14 hP hD hS => ?_)
    obtain ⟨kd2_7, bg2_8, nx2_9, ft2_10, lz2_11, fc2_12, q_13⟩ := u_
    replace hq14 : (0 ≤ lz2_11.toInt ∧ lz2_11.toInt ≤ 400) ∧ (-1 ≤ ft2_10.toInt) ∧ (0 ≤ nx2_9.toInt ∧ nx2_9.toInt ≤ 400) ∧ (0 ≤ bg2_8.toInt ∧ bg2_8.toInt ≤ 400) ∧ (zKd kd2_7.toInt bg2_8.toInt nx2_9.toInt) ∧ (zTk fb ln.toInt kd2_7.toInt bg2_8.toInt nx2_9.toInt) ∧ (q_13 = 1 ∧ zCond fb ln.toInt (zAtom fb ln.toInt 3) bg2_2.toInt (.ok bg2_8.toInt) ∧ (-1) = ft2_10 ∨ q_13 = 0 ∧ zCond fb ln.toInt (zAtom fb ln.toInt 3) bg2_2.toInt (.bad ft2_10.toInt)) := hq14
    have hP : va_P g.1 vwCl (List.flatten [bLT g lt ta lo, bTape g ta ab sz ln kd2_7 bg2_8 nx2_9 ft2_10 fb, bLaw g lo lc lz2_11 ll lm lg ld fc2_12]) H := hP
    have hD : va_D A (List.flatten [bLT g lt ta lo, bTape g ta ab sz ln kd2_7 bg2_8 nx2_9 ft2_10 fb, bLaw g lo lc lz2_11 ll lm lg ld fc2_12]) := hD
    refine W.widen (k := 0) (n := 0) (Nat.le_of_ble_eq_true rfl) (Nat.le_of_ble_eq_true rfl) ?_
    refine W.eq (g2 := F0 m 17 ls [.int q_13]) rfl ?_
    obtain ⟨hq14_0, hq14_1, hq14_2, hq14_3, hq14_4, hq14_5, hq14_6⟩ := hq14
    rcases hq14_6 with ⟨rfl, hq14_k, rfl⟩ | ⟨rfl, hq14_k⟩
    · skip
      refine lv_if_eq (tgt := 46) hx hb dX2_readDeeper_17 (by decide) (fun c15 => absurd c15 (by decide)) (fun _ => ?_)
      refine lv_aload_n hx hb dX2_readDeeper_20 rfl (lv_at hl 0 rfl) ?_
      refine va_get (D := g.1) (ci := 2) (v := .ref ta) (C := RX2) (T := TX2) (N := 2) hx hb hts izRX2 hown hK hP 0 rfl rfl 0 (by decide) (hts _ k290) (fun x9 h9 => u_same (hts _ k291) x9 h9) rfl dX2_readDeeper_21 ?_
      refine lv_bipush (v := 41) hx hb dX2_readDeeper_24 (by decide) ?_
      have hL41 : (41 : Int32).toInt = 41 := by decide
      refine mcallV' (g := g) (q0 := 0) (ci := 6) (As := [.int 41]) (rest := []) St hK hT hA hP hD hS hl.1 [1] [0, 2] rfl rfl rfl (c_t_takeSignF l g ta ab sz ln kd2_7 bg2_8 nx2_9 (-1) fb 41 hln hq14_2 hq14_3 hq14_4 hq14_5) (cwV 1 hts (zgL (zl4 k300 k301 k302 k277) k286) rfl rfl rfl (by decide +kernel) ⟨Nat.le_of_ble_eq_true rfl, Nat.le_of_ble_eq_true rfl⟩) rfl rfl rfl rfl (Nat.le_of_ble_eq_true rfl) dX2_readDeeper_26 ⟨(Nat.le_of_ble_eq_true rfl), (Nat.le_of_ble_eq_true rfl)⟩ (fun u_ H locs hq20 hP hD hS => ?_)
      obtain ⟨kd2_16, bg2_17, nx2_18, q_19⟩ := u_
      replace hq20 : (0 ≤ nx2_18.toInt ∧ nx2_18.toInt ≤ 400) ∧ (0 ≤ bg2_17.toInt ∧ bg2_17.toInt ≤ 400) ∧ (zKd kd2_16.toInt bg2_17.toInt nx2_18.toInt) ∧ (zTk fb ln.toInt kd2_16.toInt bg2_17.toInt nx2_18.toInt) ∧ (q_19 = 1 ∧ zisS fb ln.toInt bg2_8.toInt (41 : Int32).toInt ∧ zMv fb ln.toInt bg2_8.toInt bg2_17.toInt ∨ q_19 = 0 ∧ ¬ zisS fb ln.toInt bg2_8.toInt (41 : Int32).toInt ∧ kd2_7 = kd2_16 ∧ bg2_8 = bg2_17 ∧ nx2_9 = nx2_18) := hq20
      have hP : va_P g.1 vwCl (List.flatten [bLT g lt ta lo, bLaw g lo lc lz2_11 ll lm lg ld fc2_12, bTape g ta ab sz ln kd2_16 bg2_17 nx2_18 (-1) fb]) H := hP
      have hD : va_D A (List.flatten [bLT g lt ta lo, bLaw g lo lc lz2_11 ll lm lg ld fc2_12, bTape g ta ab sz ln kd2_16 bg2_17 nx2_18 (-1) fb]) := hD
      refine W.widen (k := 0) (n := 0) (Nat.le_of_ble_eq_true rfl) (Nat.le_of_ble_eq_true rfl) ?_
      refine W.eq (g2 := F0 m 29 ls [.int q_19]) rfl ?_
      obtain ⟨hq20_0, hq20_1, hq20_2, hq20_3, hq20_4⟩ := hq20
      rcases hq20_4 with ⟨rfl, hq20_k, hq20_km⟩ | ⟨rfl, hq20_k, rfl, rfl, rfl⟩
      · skip
        refine lv_if_ne (tgt := 42) hx hb dX2_readDeeper_29 (by decide) (fun _ => ?_) (fun c21 => absurd c21 (by decide))
        refine lv_iconst (v := 1) hx hb dX2_readDeeper_42 (by decide) ?_
        refine lv_goto (tgt := 47) hx hb dX2_readDeeper_43 (by decide) ?_
        have hP : va_P g.1 vwCl (List.flatten [bLT g lt ta lo, bLaw g lo lc lz2_11 ll lm lg ld fc2_12, bTape g ta ab sz ln kd2_16 bg2_17 nx2_18 (-1) fb]) H := hP
        have hD : va_D A (List.flatten [bLT g lt ta lo, bLaw g lo lc lz2_11 ll lm lg ld fc2_12, bTape g ta ab sz ln kd2_16 bg2_17 nx2_18 (-1) fb]) := hD
        obtain ⟨hP, hD⟩ := zord (g := g) (Bs' := [bLT g lt ta lo, bTape g ta ab sz ln kd2_16 bg2_17 nx2_18 (-1) fb, bLaw g lo lc lz2_11 ll lm lg ld fc2_12]) [0, 2, 1] rfl rfl hP hD
        exact mret_z hx hb hr hlocks hS (Nat.le_of_ble_eq_true rfl) (Nat.le_of_ble_eq_true rfl) dX2_readDeeper_47 (kd2_16, bg2_17, nx2_18, -1, lz2_11, fc2_12, (1 : Int32)) rfl (by decide) (show (0 ≤ lz2_11.toInt ∧ lz2_11.toInt ≤ 400) ∧ (-1 ≤ ((-1) : Int32).toInt) ∧ (0 ≤ nx2_18.toInt ∧ nx2_18.toInt ≤ 400) ∧ (0 ≤ bg2_17.toInt ∧ bg2_17.toInt ≤ 400) ∧ (zKd kd2_16.toInt bg2_17.toInt nx2_18.toInt) ∧ (zTk fb ln.toInt kd2_16.toInt bg2_17.toInt nx2_18.toInt) ∧ (1 = 1 ∧ zDpr fb ln.toInt 3 bg.toInt (.ok bg2_17.toInt) ∧ (-1) = (-1) ∨ 1 = 0 ∧ zDpr fb ln.toInt 3 bg.toInt (.bad ((-1) : Int32).toInt)) from ⟨(by first | assumption | omega | exact Or.inl (by decide) | exact Or.inr (by omega)), (by decide), (by first | assumption | omega | exact Or.inl (by decide) | exact Or.inr (by omega)), (by first | assumption | omega | exact Or.inl (by decide) | exact Or.inr (by omega)), (by first | assumption | omega | exact Or.inl (by decide) | exact Or.inr (by omega)), (by assumption), (Or.inl ⟨rfl, zDp_p hq5_k hq5_km (zPar_shut hq14_k hq20_k hq20_km), rfl⟩)⟩) hP hD
      · skip
        refine lv_if_ne (tgt := 42) hx hb dX2_readDeeper_29 (by decide) (fun c22 => absurd (by decide) c22) (fun _ => ?_)
        refine lv_aload_n hx hb dX2_readDeeper_32 rfl (lv_at hl 0 rfl) ?_
        refine va_get (D := g.1) (ci := 2) (v := .ref ta) (C := RX2) (T := TX2) (N := 2) hx hb hts izRX2 hown hK hP 0 rfl rfl 0 (by decide) (hts _ k290) (fun x9 h9 => u_same (hts _ k291) x9 h9) rfl dX2_readDeeper_33 ?_
        refine mcallV' (g := g) (q0 := 0) (ci := 6) (As := []) (rest := []) St hK hT hA hP hD hS hl.1 [2] [0, 1] rfl rfl rfl (c_t_refuseF l g ta ab sz ln kd2_7 bg2_8 nx2_9 fb ) (cwV 0 hts (zgL (zl4 k303 k279 k280 k277) k269) rfl rfl rfl (by decide +kernel) ⟨Nat.le_of_ble_eq_true rfl, Nat.le_of_ble_eq_true rfl⟩) rfl rfl rfl rfl (Nat.le_of_ble_eq_true rfl) dX2_readDeeper_36 ⟨(Nat.le_of_ble_eq_true rfl), (Nat.le_of_ble_eq_true rfl)⟩ (fun _u H locs hq23 hP hD hS => ?_)
        have hP : va_P g.1 vwCl (List.flatten [bLT g lt ta lo, bLaw g lo lc lz2_11 ll lm lg ld fc2_12, bTape g ta ab sz ln kd2_7 bg2_8 nx2_9 bg2_8 fb]) H := hP
        have hD : va_D A (List.flatten [bLT g lt ta lo, bLaw g lo lc lz2_11 ll lm lg ld fc2_12, bTape g ta ab sz ln kd2_7 bg2_8 nx2_9 bg2_8 fb]) := hD
        refine W.widen (k := 0) (n := 0) (Nat.le_of_ble_eq_true rfl) (Nat.le_of_ble_eq_true rfl) ?_
        refine W.eq (g2 := F0 m 39 ls [.int 0]) rfl ?_
        refine lv_if_eq (tgt := 46) hx hb dX2_readDeeper_39 (by decide) (fun _ => ?_) (fun c24 => absurd (by decide) c24)
        refine lv_iconst (v := 0) hx hb dX2_readDeeper_46 (by decide) ?_
        have hP : va_P g.1 vwCl (List.flatten [bLT g lt ta lo, bLaw g lo lc lz2_11 ll lm lg ld fc2_12, bTape g ta ab sz ln kd2_7 bg2_8 nx2_9 bg2_8 fb]) H := hP
        have hD : va_D A (List.flatten [bLT g lt ta lo, bLaw g lo lc lz2_11 ll lm lg ld fc2_12, bTape g ta ab sz ln kd2_7 bg2_8 nx2_9 bg2_8 fb]) := hD
        obtain ⟨hP, hD⟩ := zord (g := g) (Bs' := [bLT g lt ta lo, bTape g ta ab sz ln kd2_7 bg2_8 nx2_9 bg2_8 fb, bLaw g lo lc lz2_11 ll lm lg ld fc2_12]) [0, 2, 1] rfl rfl hP hD
        exact mret_z hx hb hr hlocks hS (Nat.le_of_ble_eq_true rfl) (Nat.le_of_ble_eq_true rfl) dX2_readDeeper_47 (kd2_7, bg2_8, nx2_9, bg2_8, lz2_11, fc2_12, (0 : Int32)) rfl (by decide) (show (0 ≤ lz2_11.toInt ∧ lz2_11.toInt ≤ 400) ∧ (-1 ≤ bg2_8.toInt) ∧ (0 ≤ nx2_9.toInt ∧ nx2_9.toInt ≤ 400) ∧ (0 ≤ bg2_8.toInt ∧ bg2_8.toInt ≤ 400) ∧ (zKd kd2_7.toInt bg2_8.toInt nx2_9.toInt) ∧ (zTk fb ln.toInt kd2_7.toInt bg2_8.toInt nx2_9.toInt) ∧ (0 = 1 ∧ zDpr fb ln.toInt 3 bg.toInt (.ok bg2_8.toInt) ∧ (-1) = bg2_8 ∨ 0 = 0 ∧ zDpr fb ln.toInt 3 bg.toInt (.bad bg2_8.toInt)) from ⟨(by first | assumption | omega | exact Or.inl (by decide) | exact Or.inr (by omega)), (by first | decide | omega), (by first | assumption | omega | exact Or.inl (by decide) | exact Or.inr (by omega)), (by first | assumption | omega | exact Or.inl (by decide) | exact Or.inr (by omega)), (by first | assumption | omega | exact Or.inl (by decide) | exact Or.inr (by omega)), (by assumption), (Or.inr ⟨rfl, zDp_p hq5_k hq5_km (.open_ hq14_k hq20_k)⟩)⟩) hP hD
    · skip
      refine lv_if_eq (tgt := 46) hx hb dX2_readDeeper_17 (by decide) (fun _ => ?_) (fun c25 => absurd (by decide) c25)
      refine lv_iconst (v := 0) hx hb dX2_readDeeper_46 (by decide) ?_
      have hP : va_P g.1 vwCl (List.flatten [bLT g lt ta lo, bTape g ta ab sz ln kd2_7 bg2_8 nx2_9 ft2_10 fb, bLaw g lo lc lz2_11 ll lm lg ld fc2_12]) H := hP
      have hD : va_D A (List.flatten [bLT g lt ta lo, bTape g ta ab sz ln kd2_7 bg2_8 nx2_9 ft2_10 fb, bLaw g lo lc lz2_11 ll lm lg ld fc2_12]) := hD
      exact mret_z hx hb hr hlocks hS (Nat.le_of_ble_eq_true rfl) (Nat.le_of_ble_eq_true rfl) dX2_readDeeper_47 (kd2_7, bg2_8, nx2_9, ft2_10, lz2_11, fc2_12, (0 : Int32)) rfl (by decide) (show (0 ≤ lz2_11.toInt ∧ lz2_11.toInt ≤ 400) ∧ (-1 ≤ ft2_10.toInt) ∧ (0 ≤ nx2_9.toInt ∧ nx2_9.toInt ≤ 400) ∧ (0 ≤ bg2_8.toInt ∧ bg2_8.toInt ≤ 400) ∧ (zKd kd2_7.toInt bg2_8.toInt nx2_9.toInt) ∧ (zTk fb ln.toInt kd2_7.toInt bg2_8.toInt nx2_9.toInt) ∧ (0 = 1 ∧ zDpr fb ln.toInt 3 bg.toInt (.ok bg2_8.toInt) ∧ (-1) = ft2_10 ∨ 0 = 0 ∧ zDpr fb ln.toInt 3 bg.toInt (.bad ft2_10.toInt)) from ⟨(by first | assumption | omega | exact Or.inl (by decide) | exact Or.inr (by omega)), (by first | decide | omega), (by first | assumption | omega | exact Or.inl (by decide) | exact Or.inr (by omega)), (by first | assumption | omega | exact Or.inl (by decide) | exact Or.inr (by omega)), (by first | assumption | omega | exact Or.inl (by decide) | exact Or.inr (by omega)), (by assumption), (Or.inr ⟨rfl, zDp_p hq5_k hq5_km (.wrong hq14_k)⟩)⟩) hP hD
  · skip
    refine lv_if_eq (tgt := 48) hx hb dX2_readDeeper_9 (by decide) (fun _ => ?_) (fun c26 => absurd (by decide) c26)
    refine lv_aload_n hx hb dX2_readDeeper_48 rfl (lv_at hl 0 rfl) ?_
    refine va_get (D := g.1) (ci := 2) (v := .ref ta) (C := RX2) (T := TX2) (N := 2) hx hb hts izRX2 hown hK hP 0 rfl rfl 0 (by decide) (hts _ k290) (fun x9 h9 => u_same (hts _ k291) x9 h9) rfl dX2_readDeeper_49 ?_
    refine mcallV' (g := g) (q0 := 0) (ci := 6) (As := []) (rest := []) St hK hT hA hP hD hS hl.1 [2] [0, 1] rfl rfl rfl (c_t_stepF l g ta ab sz ln kd bg nx (-1) fb hln hnx) (cwV 0 hts (zgL (zl4 k296 k275 k276 k277) k271) rfl rfl rfl (by decide +kernel) ⟨Nat.le_of_ble_eq_true rfl, Nat.le_of_ble_eq_true rfl⟩) rfl rfl rfl rfl (Nat.le_of_ble_eq_true rfl) dX2_readDeeper_52 ⟨(Nat.le_of_ble_eq_true rfl), (Nat.le_of_ble_eq_true rfl)⟩ (fun u_ H locs hq30 hP hD hS => ?_)
    obtain ⟨kd2_27, bg2_28, nx2_29⟩ := u_
    replace hq30 : (0 ≤ nx2_29.toInt ∧ nx2_29.toInt ≤ 400) ∧ (0 ≤ bg2_28.toInt ∧ bg2_28.toInt ≤ 400) ∧ (zKd kd2_27.toInt bg2_28.toInt nx2_29.toInt) ∧ (zSk fb ln.toInt nx.toInt bg2_28.toInt) ∧ (zTk fb ln.toInt kd2_27.toInt bg2_28.toInt nx2_29.toInt) := hq30
    have hP : va_P g.1 vwCl (List.flatten [bLT g lt ta lo, bLaw g lo lc lz ll lm lg ld fc, bTape g ta ab sz ln kd2_27 bg2_28 nx2_29 (-1) fb]) H := hP
    have hD : va_D A (List.flatten [bLT g lt ta lo, bLaw g lo lc lz ll lm lg ld fc, bTape g ta ab sz ln kd2_27 bg2_28 nx2_29 (-1) fb]) := hD
    refine W.widen (k := 0) (n := 0) (Nat.le_of_ble_eq_true rfl) (Nat.le_of_ble_eq_true rfl) ?_
    refine W.eq (g2 := F0 m 55 ls []) rfl ?_
    obtain ⟨hq30_0, hq30_1, hq30_2, hq30_3, hq30_4⟩ := hq30
    refine lv_aload_n hx hb dX2_readDeeper_55 rfl (lv_at hl 0 rfl) ?_
    refine lv_iload_n hx hb dX2_readDeeper_56 rfl (lv_at hl 1 rfl) ?_
    refine mcallV' (g := g) (q0 := 0) (ci := 2) (As := [.int 3]) (rest := []) St hK hT hA hP hD hS hl.1 [0, 2, 1] [] rfl rfl rfl (c_lt_readAtom3F l g lt ta lo ab sz ln kd2_27 bg2_28 nx2_29 fb lc lz ll lm lg ld fc b_lz hln hq30_0 hq30_1 hq30_2 hq30_4) (cwV 1 hts (zgL (zl4 k317 k318 k319 k309) k327) rfl rfl rfl (by decide +kernel) ⟨Nat.le_of_ble_eq_true rfl, Nat.le_of_ble_eq_true rfl⟩) rfl rfl rfl rfl (Nat.le_of_ble_eq_true rfl) dX2_readDeeper_57 ⟨(Nat.le_of_ble_eq_true rfl), (Nat.le_of_ble_eq_true rfl)⟩ (fun u_ H locs hq38 hP hD hS => ?_)
    obtain ⟨kd2_31, bg2_32, nx2_33, ft2_34, lz2_35, fc2_36, q_37⟩ := u_
    replace hq38 : (0 ≤ lz2_35.toInt ∧ lz2_35.toInt ≤ 400) ∧ (-1 ≤ ft2_34.toInt) ∧ (0 ≤ nx2_33.toInt ∧ nx2_33.toInt ≤ 400) ∧ (0 ≤ bg2_32.toInt ∧ bg2_32.toInt ≤ 400) ∧ (zKd kd2_31.toInt bg2_32.toInt nx2_33.toInt) ∧ (zTk fb ln.toInt kd2_31.toInt bg2_32.toInt nx2_33.toInt) ∧ (q_37 = 1 ∧ zAtom fb ln.toInt 3 bg2_28.toInt (.ok bg2_32.toInt) ∧ (-1) = ft2_34 ∨ q_37 = 0 ∧ zAtom fb ln.toInt 3 bg2_28.toInt (.bad ft2_34.toInt)) := hq38
    have hP : va_P g.1 vwCl (List.flatten [bLT g lt ta lo, bTape g ta ab sz ln kd2_31 bg2_32 nx2_33 ft2_34 fb, bLaw g lo lc lz2_35 ll lm lg ld fc2_36]) H := hP
    have hD : va_D A (List.flatten [bLT g lt ta lo, bTape g ta ab sz ln kd2_31 bg2_32 nx2_33 ft2_34 fb, bLaw g lo lc lz2_35 ll lm lg ld fc2_36]) := hD
    refine W.widen (k := 0) (n := 0) (Nat.le_of_ble_eq_true rfl) (Nat.le_of_ble_eq_true rfl) ?_
    refine W.eq (g2 := F0 m 60 ls [.int q_37]) rfl ?_
    obtain ⟨hq38_0, hq38_1, hq38_2, hq38_3, hq38_4, hq38_5, hq38_6⟩ := hq38
    rcases hq38_6 with ⟨rfl, hq38_k, rfl⟩ | ⟨rfl, hq38_k⟩
    · skip
      refine lv_if_ne (tgt := 65) hx hb dX2_readDeeper_60 (by decide) (fun _ => ?_) (fun c39 => absurd c39 (by decide))
      refine lv_aload_n hx hb dX2_readDeeper_65 rfl (lv_at hl 0 rfl) ?_
      refine va_get (D := g.1) (ci := 2) (v := .ref lo) (C := RX2) (T := TX2) (N := 2) hx hb hts izRX2 hown hK hP 0 rfl rfl 1 (by decide) (hts _ k210) (fun _ h9 => h9) rfl dX2_readDeeper_66 ?_
      refine lv_bipush (v := 12) hx hb dX2_readDeeper_69 (by decide) ?_
      refine lv_iconst (v := 0) hx hb dX2_readDeeper_71 (by decide) ?_
      refine mcallV' (g := g) (q0 := 0) (ci := 1) (As := [.int 12, .int 0]) (rest := []) St hK hT hA hP hD hS hl.1 [2] [0, 1] rfl rfl rfl (c_l_put l g lo lc lz2_35 ll lm lg ld fc2_36 12 0 hq38_0) (cwV 2 hts (zgL (zl4 k297 k298 k299 k85) k202) rfl rfl rfl (by decide +kernel) ⟨Nat.le_of_ble_eq_true rfl, Nat.le_of_ble_eq_true rfl⟩) rfl rfl rfl rfl (Nat.le_of_ble_eq_true rfl) dX2_readDeeper_72 ⟨(Nat.le_of_ble_eq_true rfl), (Nat.le_of_ble_eq_true rfl)⟩ (fun u_ H locs hq43 hP hD hS => ?_)
      obtain ⟨lz2_40, fc2_41, q_42⟩ := u_
      replace hq43 : (0 ≤ lz2_40.toInt ∧ lz2_40.toInt ≤ 400) := hq43
      have hP : va_P g.1 vwCl (List.flatten [bLT g lt ta lo, bTape g ta ab sz ln kd2_31 bg2_32 nx2_33 (-1) fb, bLaw g lo lc lz2_40 ll lm lg ld fc2_41]) H := hP
      have hD : va_D A (List.flatten [bLT g lt ta lo, bTape g ta ab sz ln kd2_31 bg2_32 nx2_33 (-1) fb, bLaw g lo lc lz2_40 ll lm lg ld fc2_41]) := hD
      refine W.widen (k := 0) (n := 0) (Nat.le_of_ble_eq_true rfl) (Nat.le_of_ble_eq_true rfl) ?_
      refine W.eq (g2 := F0 m 75 ls [.int q_42]) rfl ?_
      refine lv_pop hx hb dX2_readDeeper_75 rfl ?_
      refine lv_iconst (v := 1) hx hb dX2_readDeeper_76 (by decide) ?_
      have hP : va_P g.1 vwCl (List.flatten [bLT g lt ta lo, bTape g ta ab sz ln kd2_31 bg2_32 nx2_33 (-1) fb, bLaw g lo lc lz2_40 ll lm lg ld fc2_41]) H := hP
      have hD : va_D A (List.flatten [bLT g lt ta lo, bTape g ta ab sz ln kd2_31 bg2_32 nx2_33 (-1) fb, bLaw g lo lc lz2_40 ll lm lg ld fc2_41]) := hD
      exact mret_z hx hb hr hlocks hS (Nat.le_of_ble_eq_true rfl) (Nat.le_of_ble_eq_true rfl) dX2_readDeeper_77 (kd2_31, bg2_32, nx2_33, -1, lz2_40, fc2_41, (1 : Int32)) rfl (by decide) (show (0 ≤ lz2_40.toInt ∧ lz2_40.toInt ≤ 400) ∧ (-1 ≤ ((-1) : Int32).toInt) ∧ (0 ≤ nx2_33.toInt ∧ nx2_33.toInt ≤ 400) ∧ (0 ≤ bg2_32.toInt ∧ bg2_32.toInt ≤ 400) ∧ (zKd kd2_31.toInt bg2_32.toInt nx2_33.toInt) ∧ (zTk fb ln.toInt kd2_31.toInt bg2_32.toInt nx2_33.toInt) ∧ (1 = 1 ∧ zDpr fb ln.toInt 3 bg.toInt (.ok bg2_32.toInt) ∧ (-1) = (-1) ∨ 1 = 0 ∧ zDpr fb ln.toInt 3 bg.toInt (.bad ((-1) : Int32).toInt)) from ⟨(by first | assumption | omega | exact Or.inl (by decide) | exact Or.inr (by omega)), (by decide), (by first | assumption | omega | exact Or.inl (by decide) | exact Or.inr (by omega)), (by first | assumption | omega | exact Or.inl (by decide) | exact Or.inr (by omega)), (by first | assumption | omega | exact Or.inl (by decide) | exact Or.inr (by omega)), (by assumption), (Or.inl ⟨rfl, zDp_n hq5_k (zMv_mk hTk hq30_3) hq38_k, rfl⟩)⟩) hP hD
    · skip
      refine lv_if_ne (tgt := 65) hx hb dX2_readDeeper_60 (by decide) (fun c44 => absurd (by decide) c44) (fun _ => ?_)
      refine lv_iconst (v := 0) hx hb dX2_readDeeper_63 (by decide) ?_
      have hP : va_P g.1 vwCl (List.flatten [bLT g lt ta lo, bTape g ta ab sz ln kd2_31 bg2_32 nx2_33 ft2_34 fb, bLaw g lo lc lz2_35 ll lm lg ld fc2_36]) H := hP
      have hD : va_D A (List.flatten [bLT g lt ta lo, bTape g ta ab sz ln kd2_31 bg2_32 nx2_33 ft2_34 fb, bLaw g lo lc lz2_35 ll lm lg ld fc2_36]) := hD
      exact mret_z hx hb hr hlocks hS (Nat.le_of_ble_eq_true rfl) (Nat.le_of_ble_eq_true rfl) dX2_readDeeper_64 (kd2_31, bg2_32, nx2_33, ft2_34, lz2_35, fc2_36, (0 : Int32)) rfl (by decide) (show (0 ≤ lz2_35.toInt ∧ lz2_35.toInt ≤ 400) ∧ (-1 ≤ ft2_34.toInt) ∧ (0 ≤ nx2_33.toInt ∧ nx2_33.toInt ≤ 400) ∧ (0 ≤ bg2_32.toInt ∧ bg2_32.toInt ≤ 400) ∧ (zKd kd2_31.toInt bg2_32.toInt nx2_33.toInt) ∧ (zTk fb ln.toInt kd2_31.toInt bg2_32.toInt nx2_33.toInt) ∧ (0 = 1 ∧ zDpr fb ln.toInt 3 bg.toInt (.ok bg2_32.toInt) ∧ (-1) = ft2_34 ∨ 0 = 0 ∧ zDpr fb ln.toInt 3 bg.toInt (.bad ft2_34.toInt)) from ⟨(by first | assumption | omega | exact Or.inl (by decide) | exact Or.inr (by omega)), (by first | decide | omega), (by first | assumption | omega | exact Or.inl (by decide) | exact Or.inr (by omega)), (by first | assumption | omega | exact Or.inl (by decide) | exact Or.inr (by omega)), (by first | assumption | omega | exact Or.inl (by decide) | exact Or.inr (by omega)), (by assumption), (Or.inr ⟨rfl, zDp_n hq5_k (zMv_mk hTk hq30_3) hq38_k⟩)⟩) hP hD
set_option maxRecDepth 100000 in
set_option maxHeartbeats 4000000 in
theorem c_lt_readAtom2F (l : Launch) (g : zG) (lt : Nat) (ta : Nat) (lo : Nat) (ab : Nat) (sz : Int32) (ln : Int32) (kd : Int32) (bg : Int32) (nx : Int32) (fb : Nat → Int32) (lc : Nat) (lz : Int32) (ll : Int32) (lm : Int32) (lg : Int32) (ld : Int32) (fc : Nat → Int32) (b_lz : 0 ≤ lz.toInt ∧ lz.toInt ≤ 400) (hln : 0 ≤ ln.toInt ∧ ln.toInt ≤ 400) (hnx : 0 ≤ nx.toInt ∧ nx.toInt ≤ 400) (hbg : 0 ≤ bg.toInt ∧ bg.toInt ≤ 400) (hkd : zKd kd.toInt bg.toInt nx.toInt) (hTk : zTk fb ln.toInt kd.toInt bg.toInt nx.toInt) : zM' g l yX2_readAtom (Cond.code yX2_readAtom cX2_readAtom 3 (some .boolean) :: zB) ({ frames := 18, cells := 0, slots := 0, locals := 398 } : Room) [.ref lt, .int 2] [bLT g lt ta lo, bTape g ta ab sz ln kd bg nx (-1) fb, bLaw g lo lc lz ll lm lg ld fc] (fun u : Int32 × Int32 × Int32 × Int32 × Int32 × (Nat → Int32) × Int32 => (fun (kd2 : Int32) (bg2 : Int32) (nx2 : Int32) (ft2 : Int32) (lz2 : Int32) (fc2 : Nat → Int32) (q : Int32) => some (.int q)) (u.1) (u.2.1) (u.2.2.1) (u.2.2.2.1) (u.2.2.2.2.1) (u.2.2.2.2.2.1) (u.2.2.2.2.2.2)) (fun u : Int32 × Int32 × Int32 × Int32 × Int32 × (Nat → Int32) × Int32 => (fun (kd2 : Int32) (bg2 : Int32) (nx2 : Int32) (ft2 : Int32) (lz2 : Int32) (fc2 : Nat → Int32) (q : Int32) => (0 ≤ lz2.toInt ∧ lz2.toInt ≤ 400) ∧ (-1 ≤ ft2.toInt) ∧ (0 ≤ nx2.toInt ∧ nx2.toInt ≤ 400) ∧ (0 ≤ bg2.toInt ∧ bg2.toInt ≤ 400) ∧ (zKd kd2.toInt bg2.toInt nx2.toInt) ∧ (zTk fb ln.toInt kd2.toInt bg2.toInt nx2.toInt) ∧ (q = 1 ∧ zAtom fb ln.toInt 4 bg.toInt (.ok bg2.toInt) ∧ (-1) = ft2 ∨ q = 0 ∧ zAtom fb ln.toInt 4 bg.toInt (.bad ft2.toInt))) (u.1) (u.2.1) (u.2.2.1) (u.2.2.2.1) (u.2.2.2.2.1) (u.2.2.2.2.2.1) (u.2.2.2.2.2.2)) (fun u : Int32 × Int32 × Int32 × Int32 × Int32 × (Nat → Int32) × Int32 => (fun (kd2 : Int32) (bg2 : Int32) (nx2 : Int32) (ft2 : Int32) (lz2 : Int32) (fc2 : Nat → Int32) (q : Int32) => [bLT g lt ta lo, bTape g ta ab sz ln kd2 bg2 nx2 ft2 fb, bLaw g lo lc lz2 ll lm lg ld fc2]) (u.1) (u.2.1) (u.2.2.1) (u.2.2.2.1) (u.2.2.2.2.1) (u.2.2.2.2.2.1) (u.2.2.2.2.2.2)) := by
  refine zM'.of (cc := cX2_readAtom) (maxL := 3) (rt := (some .boolean)) (by decide) rfl (Nat.le_of_ble_eq_true rfl) ?_
  intro p e s m args below meth c A ls St hr hlocks hin hK hT hA hP hD hS hl
  obtain ⟨hx, hb, hml, hown, hts⟩ := id St
  have hl : lv_has ls 3 [(0, .ref lt), (1, .int 2)] := hl
  refine lv_aload_n hx hb dX2_readAtom_0 rfl (lv_at hl 0 rfl) ?_
  refine va_get (D := g.1) (ci := 2) (v := .ref ta) (C := RX2) (T := TX2) (N := 2) hx hb hts izRX2 hown hK hP 0 rfl rfl 0 (by decide) (hts _ k290) (fun x9 h9 => u_same (hts _ k291) x9 h9) rfl dX2_readAtom_1 ?_
  refine va_ldcS (q := g.2 20) hx hb hown (zra5 hT.2.1) dX2_readAtom_4 ?_
  refine mcallV' (g := g) (q0 := 0) (ci := 6) (As := [.ref (g.2 20)]) (rest := []) St hK hT hA hP hD hS hl.1 [1] [0, 2] rfl rfl rfl (c_t_isWordF l g ta ab sz ln kd bg nx (-1) fb (g.2 20) 5 zqa5 hln hnx hbg hkd hTk rfl zla5 zna5 (zlitB zla5)) (cwV 1 hts (zgL (zl4 k292 k282 k283 k277) k268) rfl rfl rfl (by decide +kernel) ⟨Nat.le_of_ble_eq_true rfl, Nat.le_of_ble_eq_true rfl⟩) rfl rfl rfl rfl (Nat.le_of_ble_eq_true rfl) dX2_readAtom_6 ⟨(Nat.le_of_ble_eq_true rfl), (Nat.le_of_ble_eq_true rfl)⟩ (fun r_1 H locs hq2 hP hD hS => ?_)
  replace hq2 : (r_1 = 1 ∧ zisW fb ln.toInt bg.toInt zqa5.2.2.2 ∨ r_1 = 0 ∧ ¬ zisW fb ln.toInt bg.toInt zqa5.2.2.2) := hq2
  have hP : va_P g.1 vwCl (List.flatten [bLT g lt ta lo, bLaw g lo lc lz ll lm lg ld fc, bTape g ta ab sz ln kd bg nx (-1) fb]) H := hP
  have hD : va_D A (List.flatten [bLT g lt ta lo, bLaw g lo lc lz ll lm lg ld fc, bTape g ta ab sz ln kd bg nx (-1) fb]) := hD
  refine W.widen (k := 0) (n := 0) (Nat.le_of_ble_eq_true rfl) (Nat.le_of_ble_eq_true rfl) ?_
  refine W.eq (g2 := F0 m 9 ls [.int r_1]) rfl ?_
  rcases hq2 with ⟨rfl, hq2_k⟩ | ⟨rfl, hq2_k⟩
  · skip
    refine lv_if_ne (tgt := 24) hx hb dX2_readAtom_9 (by decide) (fun _ => ?_) (fun c3 => absurd c3 (by decide))
    refine lv_iload_n hx hb dX2_readAtom_24 rfl (lv_at hl 1 rfl) ?_
    refine lv_bipush (v := 6) hx hb dX2_readAtom_25 (by decide) ?_
    refine lv_icmp_ge (tgt := 40) hx hb dX2_readAtom_27 (by decide) (fun c4 => absurd c4 (by decide)) (fun _ => ?_)
    refine lv_aload_n hx hb dX2_readAtom_30 rfl (lv_at hl 0 rfl) ?_
    refine lv_iload_n hx hb dX2_readAtom_31 rfl (lv_at hl 1 rfl) ?_
    refine lv_iconst (v := 1) hx hb dX2_readAtom_32 (by decide) ?_
    refine lv_iadd hx hb dX2_readAtom_33 ?_
    refine ztop (r := 3) (by decide) ?_
    refine mcallV' (g := g) (q0 := 0) (ci := 2) (As := [.int 3]) (rest := []) St hK hT hA hP hD hS hl.1 [0, 2, 1] [] rfl rfl rfl (c_lt_readDeeper3F l g lt ta lo ab sz ln kd bg nx fb lc lz ll lm lg ld fc b_lz hln hnx hbg hkd hTk) (cwV 1 hts (zgL (zl4 k306 k307 k308 k309) k323) rfl rfl rfl (by decide +kernel) ⟨Nat.le_of_ble_eq_true rfl, Nat.le_of_ble_eq_true rfl⟩) rfl rfl rfl rfl (Nat.le_of_ble_eq_true rfl) dX2_readAtom_34 ⟨(Nat.le_of_ble_eq_true rfl), (Nat.le_of_ble_eq_true rfl)⟩ (fun u_ H locs hq12 hP hD hS => ?_)
    obtain ⟨kd2_5, bg2_6, nx2_7, ft2_8, lz2_9, fc2_10, q_11⟩ := u_
    replace hq12 : (0 ≤ lz2_9.toInt ∧ lz2_9.toInt ≤ 400) ∧ (-1 ≤ ft2_8.toInt) ∧ (0 ≤ nx2_7.toInt ∧ nx2_7.toInt ≤ 400) ∧ (0 ≤ bg2_6.toInt ∧ bg2_6.toInt ≤ 400) ∧ (zKd kd2_5.toInt bg2_6.toInt nx2_7.toInt) ∧ (zTk fb ln.toInt kd2_5.toInt bg2_6.toInt nx2_7.toInt) ∧ (q_11 = 1 ∧ zDpr fb ln.toInt 3 bg.toInt (.ok bg2_6.toInt) ∧ (-1) = ft2_8 ∨ q_11 = 0 ∧ zDpr fb ln.toInt 3 bg.toInt (.bad ft2_8.toInt)) := hq12
    have hP : va_P g.1 vwCl (List.flatten [bLT g lt ta lo, bTape g ta ab sz ln kd2_5 bg2_6 nx2_7 ft2_8 fb, bLaw g lo lc lz2_9 ll lm lg ld fc2_10]) H := hP
    have hD : va_D A (List.flatten [bLT g lt ta lo, bTape g ta ab sz ln kd2_5 bg2_6 nx2_7 ft2_8 fb, bLaw g lo lc lz2_9 ll lm lg ld fc2_10]) := hD
    refine W.widen (k := 0) (n := 0) (Nat.le_of_ble_eq_true rfl) (Nat.le_of_ble_eq_true rfl) ?_
    refine W.eq (g2 := F0 m 37 ls [.int q_11]) rfl ?_
    obtain ⟨hq12_0, hq12_1, hq12_2, hq12_3, hq12_4, hq12_5, hq12_6⟩ := hq12
    rcases hq12_6 with ⟨rfl, hq12_k, rfl⟩ | ⟨rfl, hq12_k⟩
    · skip
      refine lv_goto (tgt := 47) hx hb dX2_readAtom_37 (by decide) ?_
      have hP : va_P g.1 vwCl (List.flatten [bLT g lt ta lo, bTape g ta ab sz ln kd2_5 bg2_6 nx2_7 (-1) fb, bLaw g lo lc lz2_9 ll lm lg ld fc2_10]) H := hP
      have hD : va_D A (List.flatten [bLT g lt ta lo, bTape g ta ab sz ln kd2_5 bg2_6 nx2_7 (-1) fb, bLaw g lo lc lz2_9 ll lm lg ld fc2_10]) := hD
      exact mret_z hx hb hr hlocks hS (Nat.le_of_ble_eq_true rfl) (Nat.le_of_ble_eq_true rfl) dX2_readAtom_47 (kd2_5, bg2_6, nx2_7, -1, lz2_9, fc2_10, (1 : Int32)) rfl (by decide) (show (0 ≤ lz2_9.toInt ∧ lz2_9.toInt ≤ 400) ∧ (-1 ≤ ((-1) : Int32).toInt) ∧ (0 ≤ nx2_7.toInt ∧ nx2_7.toInt ≤ 400) ∧ (0 ≤ bg2_6.toInt ∧ bg2_6.toInt ≤ 400) ∧ (zKd kd2_5.toInt bg2_6.toInt nx2_7.toInt) ∧ (zTk fb ln.toInt kd2_5.toInt bg2_6.toInt nx2_7.toInt) ∧ (1 = 1 ∧ zAtom fb ln.toInt 4 bg.toInt (.ok bg2_6.toInt) ∧ (-1) = (-1) ∨ 1 = 0 ∧ zAtom fb ln.toInt 4 bg.toInt (.bad ((-1) : Int32).toInt)) from ⟨(by first | assumption | omega | exact Or.inl (by decide) | exact Or.inr (by omega)), (by decide), (by first | assumption | omega | exact Or.inl (by decide) | exact Or.inr (by omega)), (by first | assumption | omega | exact Or.inl (by decide) | exact Or.inr (by omega)), (by first | assumption | omega | exact Or.inl (by decide) | exact Or.inr (by omega)), (by assumption), (Or.inl ⟨rfl, zAt_s (Or.inl hq2_k) hq12_k, rfl⟩)⟩) hP hD
    · skip
      refine lv_goto (tgt := 47) hx hb dX2_readAtom_37 (by decide) ?_
      have hP : va_P g.1 vwCl (List.flatten [bLT g lt ta lo, bTape g ta ab sz ln kd2_5 bg2_6 nx2_7 ft2_8 fb, bLaw g lo lc lz2_9 ll lm lg ld fc2_10]) H := hP
      have hD : va_D A (List.flatten [bLT g lt ta lo, bTape g ta ab sz ln kd2_5 bg2_6 nx2_7 ft2_8 fb, bLaw g lo lc lz2_9 ll lm lg ld fc2_10]) := hD
      exact mret_z hx hb hr hlocks hS (Nat.le_of_ble_eq_true rfl) (Nat.le_of_ble_eq_true rfl) dX2_readAtom_47 (kd2_5, bg2_6, nx2_7, ft2_8, lz2_9, fc2_10, (0 : Int32)) rfl (by decide) (show (0 ≤ lz2_9.toInt ∧ lz2_9.toInt ≤ 400) ∧ (-1 ≤ ft2_8.toInt) ∧ (0 ≤ nx2_7.toInt ∧ nx2_7.toInt ≤ 400) ∧ (0 ≤ bg2_6.toInt ∧ bg2_6.toInt ≤ 400) ∧ (zKd kd2_5.toInt bg2_6.toInt nx2_7.toInt) ∧ (zTk fb ln.toInt kd2_5.toInt bg2_6.toInt nx2_7.toInt) ∧ (0 = 1 ∧ zAtom fb ln.toInt 4 bg.toInt (.ok bg2_6.toInt) ∧ (-1) = ft2_8 ∨ 0 = 0 ∧ zAtom fb ln.toInt 4 bg.toInt (.bad ft2_8.toInt)) from ⟨(by first | assumption | omega | exact Or.inl (by decide) | exact Or.inr (by omega)), (by first | decide | omega), (by first | assumption | omega | exact Or.inl (by decide) | exact Or.inr (by omega)), (by first | assumption | omega | exact Or.inl (by decide) | exact Or.inr (by omega)), (by first | assumption | omega | exact Or.inl (by decide) | exact Or.inr (by omega)), (by assumption), (Or.inr ⟨rfl, zAt_s (Or.inl hq2_k) hq12_k⟩)⟩) hP hD
  · skip
    refine lv_if_ne (tgt := 24) hx hb dX2_readAtom_9 (by decide) (fun c13 => absurd (by decide) c13) (fun _ => ?_)
    refine lv_aload_n hx hb dX2_readAtom_12 rfl (lv_at hl 0 rfl) ?_
    refine va_get (D := g.1) (ci := 2) (v := .ref ta) (C := RX2) (T := TX2) (N := 2) hx hb hts izRX2 hown hK hP 0 rfl rfl 0 (by decide) (hts _ k290) (fun x9 h9 => u_same (hts _ k291) x9 h9) rfl dX2_readAtom_13 ?_
    refine lv_bipush (v := 40) hx hb dX2_readAtom_16 (by decide) ?_
    have hL40 : (40 : Int32).toInt = 40 := by decide
    refine mcallV' (g := g) (q0 := 0) (ci := 6) (As := [.int 40]) (rest := []) St hK hT hA hP hD hS hl.1 [2] [0, 1] rfl rfl rfl (c_t_isSignF l g ta ab sz ln kd bg nx (-1) fb 40 hln hnx hbg hkd hTk) (cwV 1 hts (zgL (zl4 k305 k288 k289 k277) k285) rfl rfl rfl (by decide +kernel) ⟨Nat.le_of_ble_eq_true rfl, Nat.le_of_ble_eq_true rfl⟩) rfl rfl rfl rfl (Nat.le_of_ble_eq_true rfl) dX2_readAtom_18 ⟨(Nat.le_of_ble_eq_true rfl), (Nat.le_of_ble_eq_true rfl)⟩ (fun q_14 H locs hq15 hP hD hS => ?_)
    replace hq15 : (q_14 = 1 ∧ zisS fb ln.toInt bg.toInt (40 : Int32).toInt ∨ q_14 = 0 ∧ ¬ zisS fb ln.toInt bg.toInt (40 : Int32).toInt) := hq15
    have hP : va_P g.1 vwCl (List.flatten [bLT g lt ta lo, bLaw g lo lc lz ll lm lg ld fc, bTape g ta ab sz ln kd bg nx (-1) fb]) H := hP
    have hD : va_D A (List.flatten [bLT g lt ta lo, bLaw g lo lc lz ll lm lg ld fc, bTape g ta ab sz ln kd bg nx (-1) fb]) := hD
    refine W.widen (k := 0) (n := 0) (Nat.le_of_ble_eq_true rfl) (Nat.le_of_ble_eq_true rfl) ?_
    refine W.eq (g2 := F0 m 21 ls [.int q_14]) rfl ?_
    rcases hq15 with ⟨rfl, hq15_k⟩ | ⟨rfl, hq15_k⟩
    · skip
      refine lv_if_eq (tgt := 48) hx hb dX2_readAtom_21 (by decide) (fun c16 => absurd c16 (by decide)) (fun _ => ?_)
      refine lv_iload_n hx hb dX2_readAtom_24 rfl (lv_at hl 1 rfl) ?_
      refine lv_bipush (v := 6) hx hb dX2_readAtom_25 (by decide) ?_
      refine lv_icmp_ge (tgt := 40) hx hb dX2_readAtom_27 (by decide) (fun c17 => absurd c17 (by decide)) (fun _ => ?_)
      refine lv_aload_n hx hb dX2_readAtom_30 rfl (lv_at hl 0 rfl) ?_
      refine lv_iload_n hx hb dX2_readAtom_31 rfl (lv_at hl 1 rfl) ?_
      refine lv_iconst (v := 1) hx hb dX2_readAtom_32 (by decide) ?_
      refine lv_iadd hx hb dX2_readAtom_33 ?_
      refine ztop (r := 3) (by decide) ?_
      refine mcallV' (g := g) (q0 := 0) (ci := 2) (As := [.int 3]) (rest := []) St hK hT hA hP hD hS hl.1 [0, 2, 1] [] rfl rfl rfl (c_lt_readDeeper3F l g lt ta lo ab sz ln kd bg nx fb lc lz ll lm lg ld fc b_lz hln hnx hbg hkd hTk) (cwV 1 hts (zgL (zl4 k306 k307 k308 k309) k323) rfl rfl rfl (by decide +kernel) ⟨Nat.le_of_ble_eq_true rfl, Nat.le_of_ble_eq_true rfl⟩) rfl rfl rfl rfl (Nat.le_of_ble_eq_true rfl) dX2_readAtom_34 ⟨(Nat.le_of_ble_eq_true rfl), (Nat.le_of_ble_eq_true rfl)⟩ (fun u_ H locs hq25 hP hD hS => ?_)
      obtain ⟨kd2_18, bg2_19, nx2_20, ft2_21, lz2_22, fc2_23, q_24⟩ := u_
      replace hq25 : (0 ≤ lz2_22.toInt ∧ lz2_22.toInt ≤ 400) ∧ (-1 ≤ ft2_21.toInt) ∧ (0 ≤ nx2_20.toInt ∧ nx2_20.toInt ≤ 400) ∧ (0 ≤ bg2_19.toInt ∧ bg2_19.toInt ≤ 400) ∧ (zKd kd2_18.toInt bg2_19.toInt nx2_20.toInt) ∧ (zTk fb ln.toInt kd2_18.toInt bg2_19.toInt nx2_20.toInt) ∧ (q_24 = 1 ∧ zDpr fb ln.toInt 3 bg.toInt (.ok bg2_19.toInt) ∧ (-1) = ft2_21 ∨ q_24 = 0 ∧ zDpr fb ln.toInt 3 bg.toInt (.bad ft2_21.toInt)) := hq25
      have hP : va_P g.1 vwCl (List.flatten [bLT g lt ta lo, bTape g ta ab sz ln kd2_18 bg2_19 nx2_20 ft2_21 fb, bLaw g lo lc lz2_22 ll lm lg ld fc2_23]) H := hP
      have hD : va_D A (List.flatten [bLT g lt ta lo, bTape g ta ab sz ln kd2_18 bg2_19 nx2_20 ft2_21 fb, bLaw g lo lc lz2_22 ll lm lg ld fc2_23]) := hD
      refine W.widen (k := 0) (n := 0) (Nat.le_of_ble_eq_true rfl) (Nat.le_of_ble_eq_true rfl) ?_
      refine W.eq (g2 := F0 m 37 ls [.int q_24]) rfl ?_
      obtain ⟨hq25_0, hq25_1, hq25_2, hq25_3, hq25_4, hq25_5, hq25_6⟩ := hq25
      rcases hq25_6 with ⟨rfl, hq25_k, rfl⟩ | ⟨rfl, hq25_k⟩
      · skip
        refine lv_goto (tgt := 47) hx hb dX2_readAtom_37 (by decide) ?_
        have hP : va_P g.1 vwCl (List.flatten [bLT g lt ta lo, bTape g ta ab sz ln kd2_18 bg2_19 nx2_20 (-1) fb, bLaw g lo lc lz2_22 ll lm lg ld fc2_23]) H := hP
        have hD : va_D A (List.flatten [bLT g lt ta lo, bTape g ta ab sz ln kd2_18 bg2_19 nx2_20 (-1) fb, bLaw g lo lc lz2_22 ll lm lg ld fc2_23]) := hD
        exact mret_z hx hb hr hlocks hS (Nat.le_of_ble_eq_true rfl) (Nat.le_of_ble_eq_true rfl) dX2_readAtom_47 (kd2_18, bg2_19, nx2_20, -1, lz2_22, fc2_23, (1 : Int32)) rfl (by decide) (show (0 ≤ lz2_22.toInt ∧ lz2_22.toInt ≤ 400) ∧ (-1 ≤ ((-1) : Int32).toInt) ∧ (0 ≤ nx2_20.toInt ∧ nx2_20.toInt ≤ 400) ∧ (0 ≤ bg2_19.toInt ∧ bg2_19.toInt ≤ 400) ∧ (zKd kd2_18.toInt bg2_19.toInt nx2_20.toInt) ∧ (zTk fb ln.toInt kd2_18.toInt bg2_19.toInt nx2_20.toInt) ∧ (1 = 1 ∧ zAtom fb ln.toInt 4 bg.toInt (.ok bg2_19.toInt) ∧ (-1) = (-1) ∨ 1 = 0 ∧ zAtom fb ln.toInt 4 bg.toInt (.bad ((-1) : Int32).toInt)) from ⟨(by first | assumption | omega | exact Or.inl (by decide) | exact Or.inr (by omega)), (by decide), (by first | assumption | omega | exact Or.inl (by decide) | exact Or.inr (by omega)), (by first | assumption | omega | exact Or.inl (by decide) | exact Or.inr (by omega)), (by first | assumption | omega | exact Or.inl (by decide) | exact Or.inr (by omega)), (by assumption), (Or.inl ⟨rfl, zAt_s (Or.inr hq15_k) hq25_k, rfl⟩)⟩) hP hD
      · skip
        refine lv_goto (tgt := 47) hx hb dX2_readAtom_37 (by decide) ?_
        have hP : va_P g.1 vwCl (List.flatten [bLT g lt ta lo, bTape g ta ab sz ln kd2_18 bg2_19 nx2_20 ft2_21 fb, bLaw g lo lc lz2_22 ll lm lg ld fc2_23]) H := hP
        have hD : va_D A (List.flatten [bLT g lt ta lo, bTape g ta ab sz ln kd2_18 bg2_19 nx2_20 ft2_21 fb, bLaw g lo lc lz2_22 ll lm lg ld fc2_23]) := hD
        exact mret_z hx hb hr hlocks hS (Nat.le_of_ble_eq_true rfl) (Nat.le_of_ble_eq_true rfl) dX2_readAtom_47 (kd2_18, bg2_19, nx2_20, ft2_21, lz2_22, fc2_23, (0 : Int32)) rfl (by decide) (show (0 ≤ lz2_22.toInt ∧ lz2_22.toInt ≤ 400) ∧ (-1 ≤ ft2_21.toInt) ∧ (0 ≤ nx2_20.toInt ∧ nx2_20.toInt ≤ 400) ∧ (0 ≤ bg2_19.toInt ∧ bg2_19.toInt ≤ 400) ∧ (zKd kd2_18.toInt bg2_19.toInt nx2_20.toInt) ∧ (zTk fb ln.toInt kd2_18.toInt bg2_19.toInt nx2_20.toInt) ∧ (0 = 1 ∧ zAtom fb ln.toInt 4 bg.toInt (.ok bg2_19.toInt) ∧ (-1) = ft2_21 ∨ 0 = 0 ∧ zAtom fb ln.toInt 4 bg.toInt (.bad ft2_21.toInt)) from ⟨(by first | assumption | omega | exact Or.inl (by decide) | exact Or.inr (by omega)), (by first | decide | omega), (by first | assumption | omega | exact Or.inl (by decide) | exact Or.inr (by omega)), (by first | assumption | omega | exact Or.inl (by decide) | exact Or.inr (by omega)), (by first | assumption | omega | exact Or.inl (by decide) | exact Or.inr (by omega)), (by assumption), (Or.inr ⟨rfl, zAt_s (Or.inr hq15_k) hq25_k⟩)⟩) hP hD
    · skip
      refine lv_if_eq (tgt := 48) hx hb dX2_readAtom_21 (by decide) (fun _ => ?_) (fun c26 => absurd (by decide) c26)
      refine lv_aload_n hx hb dX2_readAtom_48 rfl (lv_at hl 0 rfl) ?_
      refine va_get (D := g.1) (ci := 2) (v := .ref ta) (C := RX2) (T := TX2) (N := 2) hx hb hts izRX2 hown hK hP 0 rfl rfl 0 (by decide) (hts _ k290) (fun x9 h9 => u_same (hts _ k291) x9 h9) rfl dX2_readAtom_49 ?_
      refine va_ldcS (q := g.2 22) hx hb hown (zra6 hT.2.1) dX2_readAtom_52 ?_
      refine mcallV' (g := g) (q0 := 0) (ci := 6) (As := [.ref (g.2 22)]) (rest := []) St hK hT hA hP hD hS hl.1 [2] [0, 1] rfl rfl rfl (c_t_takeWordF l g ta ab sz ln kd bg nx (-1) fb (g.2 22) 6 zqa6 hln hnx hbg hkd hTk rfl zla6 zna6 (zlitB zla6)) (cwV 1 hts (zgL (zl4 k310 k311 k312 k277) k284) rfl rfl rfl (by decide +kernel) ⟨Nat.le_of_ble_eq_true rfl, Nat.le_of_ble_eq_true rfl⟩) rfl rfl rfl rfl (Nat.le_of_ble_eq_true rfl) dX2_readAtom_54 ⟨(Nat.le_of_ble_eq_true rfl), (Nat.le_of_ble_eq_true rfl)⟩ (fun u_ H locs hq31 hP hD hS => ?_)
      obtain ⟨kd2_27, bg2_28, nx2_29, r_30⟩ := u_
      replace hq31 : (0 ≤ nx2_29.toInt ∧ nx2_29.toInt ≤ 400) ∧ (0 ≤ bg2_28.toInt ∧ bg2_28.toInt ≤ 400) ∧ (zKd kd2_27.toInt bg2_28.toInt nx2_29.toInt) ∧ (zTk fb ln.toInt kd2_27.toInt bg2_28.toInt nx2_29.toInt) ∧ (r_30 = 1 ∧ zisW fb ln.toInt bg.toInt zqa6.2.2.2 ∧ zMv fb ln.toInt bg.toInt bg2_28.toInt ∨ r_30 = 0 ∧ ¬ zisW fb ln.toInt bg.toInt zqa6.2.2.2 ∧ kd = kd2_27 ∧ bg = bg2_28 ∧ nx = nx2_29) := hq31
      have hP : va_P g.1 vwCl (List.flatten [bLT g lt ta lo, bLaw g lo lc lz ll lm lg ld fc, bTape g ta ab sz ln kd2_27 bg2_28 nx2_29 (-1) fb]) H := hP
      have hD : va_D A (List.flatten [bLT g lt ta lo, bLaw g lo lc lz ll lm lg ld fc, bTape g ta ab sz ln kd2_27 bg2_28 nx2_29 (-1) fb]) := hD
      refine W.widen (k := 0) (n := 0) (Nat.le_of_ble_eq_true rfl) (Nat.le_of_ble_eq_true rfl) ?_
      refine W.eq (g2 := F0 m 57 ls [.int r_30]) rfl ?_
      obtain ⟨hq31_0, hq31_1, hq31_2, hq31_3, hq31_4⟩ := hq31
      rcases hq31_4 with ⟨rfl, hq31_k, hq31_km⟩ | ⟨rfl, hq31_k, rfl, rfl, rfl⟩
      · skip
        refine lv_if_eq (tgt := 73) hx hb dX2_readAtom_57 (by decide) (fun c32 => absurd c32 (by decide)) (fun _ => ?_)
        refine lv_aload_n hx hb dX2_readAtom_60 rfl (lv_at hl 0 rfl) ?_
        refine va_get (D := g.1) (ci := 2) (v := .ref lo) (C := RX2) (T := TX2) (N := 2) hx hb hts izRX2 hown hK hP 0 rfl rfl 1 (by decide) (hts _ k210) (fun _ h9 => h9) rfl dX2_readAtom_61 ?_
        refine lv_bipush (v := 10) hx hb dX2_readAtom_64 (by decide) ?_
        refine lv_iconst (v := 0) hx hb dX2_readAtom_66 (by decide) ?_
        refine mcallV' (g := g) (q0 := 0) (ci := 1) (As := [.int 10, .int 0]) (rest := []) St hK hT hA hP hD hS hl.1 [1] [0, 2] rfl rfl rfl (c_l_put l g lo lc lz ll lm lg ld fc 10 0 b_lz) (cwV 2 hts (zgL (zl4 k297 k298 k299 k85) k202) rfl rfl rfl (by decide +kernel) ⟨Nat.le_of_ble_eq_true rfl, Nat.le_of_ble_eq_true rfl⟩) rfl rfl rfl rfl (Nat.le_of_ble_eq_true rfl) dX2_readAtom_67 ⟨(Nat.le_of_ble_eq_true rfl), (Nat.le_of_ble_eq_true rfl)⟩ (fun u_ H locs hq36 hP hD hS => ?_)
        obtain ⟨lz2_33, fc2_34, q_35⟩ := u_
        replace hq36 : (0 ≤ lz2_33.toInt ∧ lz2_33.toInt ≤ 400) := hq36
        have hP : va_P g.1 vwCl (List.flatten [bLT g lt ta lo, bTape g ta ab sz ln kd2_27 bg2_28 nx2_29 (-1) fb, bLaw g lo lc lz2_33 ll lm lg ld fc2_34]) H := hP
        have hD : va_D A (List.flatten [bLT g lt ta lo, bTape g ta ab sz ln kd2_27 bg2_28 nx2_29 (-1) fb, bLaw g lo lc lz2_33 ll lm lg ld fc2_34]) := hD
        refine W.widen (k := 0) (n := 0) (Nat.le_of_ble_eq_true rfl) (Nat.le_of_ble_eq_true rfl) ?_
        refine W.eq (g2 := F0 m 70 ls [.int q_35]) rfl ?_
        refine lv_pop hx hb dX2_readAtom_70 rfl ?_
        refine lv_iconst (v := 1) hx hb dX2_readAtom_71 (by decide) ?_
        have hP : va_P g.1 vwCl (List.flatten [bLT g lt ta lo, bTape g ta ab sz ln kd2_27 bg2_28 nx2_29 (-1) fb, bLaw g lo lc lz2_33 ll lm lg ld fc2_34]) H := hP
        have hD : va_D A (List.flatten [bLT g lt ta lo, bTape g ta ab sz ln kd2_27 bg2_28 nx2_29 (-1) fb, bLaw g lo lc lz2_33 ll lm lg ld fc2_34]) := hD
        exact mret_z hx hb hr hlocks hS (Nat.le_of_ble_eq_true rfl) (Nat.le_of_ble_eq_true rfl) dX2_readAtom_72 (kd2_27, bg2_28, nx2_29, -1, lz2_33, fc2_34, (1 : Int32)) rfl (by decide) (show (0 ≤ lz2_33.toInt ∧ lz2_33.toInt ≤ 400) ∧ (-1 ≤ ((-1) : Int32).toInt) ∧ (0 ≤ nx2_29.toInt ∧ nx2_29.toInt ≤ 400) ∧ (0 ≤ bg2_28.toInt ∧ bg2_28.toInt ≤ 400) ∧ (zKd kd2_27.toInt bg2_28.toInt nx2_29.toInt) ∧ (zTk fb ln.toInt kd2_27.toInt bg2_28.toInt nx2_29.toInt) ∧ (1 = 1 ∧ zAtom fb ln.toInt 4 bg.toInt (.ok bg2_28.toInt) ∧ (-1) = (-1) ∨ 1 = 0 ∧ zAtom fb ln.toInt 4 bg.toInt (.bad ((-1) : Int32).toInt)) from ⟨(by first | assumption | omega | exact Or.inl (by decide) | exact Or.inr (by omega)), (by decide), (by first | assumption | omega | exact Or.inl (by decide) | exact Or.inr (by omega)), (by first | assumption | omega | exact Or.inl (by decide) | exact Or.inr (by omega)), (by first | assumption | omega | exact Or.inl (by decide) | exact Or.inr (by omega)), (by assumption), (Or.inl ⟨rfl, zAt_pl (zor_n hq2_k hq15_k) (zPl_word (Or.inl hq31_k) hq31_km), rfl⟩)⟩) hP hD
      · skip
        refine lv_if_eq (tgt := 73) hx hb dX2_readAtom_57 (by decide) (fun _ => ?_) (fun c37 => absurd (by decide) c37)
        refine lv_aload_n hx hb dX2_readAtom_73 rfl (lv_at hl 0 rfl) ?_
        refine va_get (D := g.1) (ci := 2) (v := .ref ta) (C := RX2) (T := TX2) (N := 2) hx hb hts izRX2 hown hK hP 0 rfl rfl 0 (by decide) (hts _ k290) (fun x9 h9 => u_same (hts _ k291) x9 h9) rfl dX2_readAtom_74 ?_
        refine va_ldcS (q := g.2 24) hx hb hown (zra7 hT.2.1) dX2_readAtom_77 ?_
        refine mcallV' (g := g) (q0 := 0) (ci := 6) (As := [.ref (g.2 24)]) (rest := []) St hK hT hA hP hD hS hl.1 [2] [0, 1] rfl rfl rfl (c_t_takeWordF l g ta ab sz ln kd bg nx (-1) fb (g.2 24) 7 zqa7 hln hnx hbg hkd hTk rfl zla7 zna7 (zlitB zla7)) (cwV 1 hts (zgL (zl4 k310 k311 k312 k277) k284) rfl rfl rfl (by decide +kernel) ⟨Nat.le_of_ble_eq_true rfl, Nat.le_of_ble_eq_true rfl⟩) rfl rfl rfl rfl (Nat.le_of_ble_eq_true rfl) dX2_readAtom_79 ⟨(Nat.le_of_ble_eq_true rfl), (Nat.le_of_ble_eq_true rfl)⟩ (fun u_ H locs hq42 hP hD hS => ?_)
        obtain ⟨kd2_38, bg2_39, nx2_40, r_41⟩ := u_
        replace hq42 : (0 ≤ nx2_40.toInt ∧ nx2_40.toInt ≤ 400) ∧ (0 ≤ bg2_39.toInt ∧ bg2_39.toInt ≤ 400) ∧ (zKd kd2_38.toInt bg2_39.toInt nx2_40.toInt) ∧ (zTk fb ln.toInt kd2_38.toInt bg2_39.toInt nx2_40.toInt) ∧ (r_41 = 1 ∧ zisW fb ln.toInt bg.toInt zqa7.2.2.2 ∧ zMv fb ln.toInt bg.toInt bg2_39.toInt ∨ r_41 = 0 ∧ ¬ zisW fb ln.toInt bg.toInt zqa7.2.2.2 ∧ kd = kd2_38 ∧ bg = bg2_39 ∧ nx = nx2_40) := hq42
        have hP : va_P g.1 vwCl (List.flatten [bLT g lt ta lo, bLaw g lo lc lz ll lm lg ld fc, bTape g ta ab sz ln kd2_38 bg2_39 nx2_40 (-1) fb]) H := hP
        have hD : va_D A (List.flatten [bLT g lt ta lo, bLaw g lo lc lz ll lm lg ld fc, bTape g ta ab sz ln kd2_38 bg2_39 nx2_40 (-1) fb]) := hD
        refine W.widen (k := 0) (n := 0) (Nat.le_of_ble_eq_true rfl) (Nat.le_of_ble_eq_true rfl) ?_
        refine W.eq (g2 := F0 m 82 ls [.int r_41]) rfl ?_
        obtain ⟨hq42_0, hq42_1, hq42_2, hq42_3, hq42_4⟩ := hq42
        rcases hq42_4 with ⟨rfl, hq42_k, hq42_km⟩ | ⟨rfl, hq42_k, rfl, rfl, rfl⟩
        · skip
          refine lv_if_eq (tgt := 98) hx hb dX2_readAtom_82 (by decide) (fun c43 => absurd c43 (by decide)) (fun _ => ?_)
          refine lv_aload_n hx hb dX2_readAtom_85 rfl (lv_at hl 0 rfl) ?_
          refine va_get (D := g.1) (ci := 2) (v := .ref lo) (C := RX2) (T := TX2) (N := 2) hx hb hts izRX2 hown hK hP 0 rfl rfl 1 (by decide) (hts _ k210) (fun _ h9 => h9) rfl dX2_readAtom_86 ?_
          refine lv_bipush (v := 11) hx hb dX2_readAtom_89 (by decide) ?_
          refine lv_iconst (v := 0) hx hb dX2_readAtom_91 (by decide) ?_
          refine mcallV' (g := g) (q0 := 0) (ci := 1) (As := [.int 11, .int 0]) (rest := []) St hK hT hA hP hD hS hl.1 [1] [0, 2] rfl rfl rfl (c_l_put l g lo lc lz ll lm lg ld fc 11 0 b_lz) (cwV 2 hts (zgL (zl4 k297 k298 k299 k85) k202) rfl rfl rfl (by decide +kernel) ⟨Nat.le_of_ble_eq_true rfl, Nat.le_of_ble_eq_true rfl⟩) rfl rfl rfl rfl (Nat.le_of_ble_eq_true rfl) dX2_readAtom_92 ⟨(Nat.le_of_ble_eq_true rfl), (Nat.le_of_ble_eq_true rfl)⟩ (fun u_ H locs hq47 hP hD hS => ?_)
          obtain ⟨lz2_44, fc2_45, q_46⟩ := u_
          replace hq47 : (0 ≤ lz2_44.toInt ∧ lz2_44.toInt ≤ 400) := hq47
          have hP : va_P g.1 vwCl (List.flatten [bLT g lt ta lo, bTape g ta ab sz ln kd2_38 bg2_39 nx2_40 (-1) fb, bLaw g lo lc lz2_44 ll lm lg ld fc2_45]) H := hP
          have hD : va_D A (List.flatten [bLT g lt ta lo, bTape g ta ab sz ln kd2_38 bg2_39 nx2_40 (-1) fb, bLaw g lo lc lz2_44 ll lm lg ld fc2_45]) := hD
          refine W.widen (k := 0) (n := 0) (Nat.le_of_ble_eq_true rfl) (Nat.le_of_ble_eq_true rfl) ?_
          refine W.eq (g2 := F0 m 95 ls [.int q_46]) rfl ?_
          refine lv_pop hx hb dX2_readAtom_95 rfl ?_
          refine lv_iconst (v := 1) hx hb dX2_readAtom_96 (by decide) ?_
          have hP : va_P g.1 vwCl (List.flatten [bLT g lt ta lo, bTape g ta ab sz ln kd2_38 bg2_39 nx2_40 (-1) fb, bLaw g lo lc lz2_44 ll lm lg ld fc2_45]) H := hP
          have hD : va_D A (List.flatten [bLT g lt ta lo, bTape g ta ab sz ln kd2_38 bg2_39 nx2_40 (-1) fb, bLaw g lo lc lz2_44 ll lm lg ld fc2_45]) := hD
          exact mret_z hx hb hr hlocks hS (Nat.le_of_ble_eq_true rfl) (Nat.le_of_ble_eq_true rfl) dX2_readAtom_97 (kd2_38, bg2_39, nx2_40, -1, lz2_44, fc2_45, (1 : Int32)) rfl (by decide) (show (0 ≤ lz2_44.toInt ∧ lz2_44.toInt ≤ 400) ∧ (-1 ≤ ((-1) : Int32).toInt) ∧ (0 ≤ nx2_40.toInt ∧ nx2_40.toInt ≤ 400) ∧ (0 ≤ bg2_39.toInt ∧ bg2_39.toInt ≤ 400) ∧ (zKd kd2_38.toInt bg2_39.toInt nx2_40.toInt) ∧ (zTk fb ln.toInt kd2_38.toInt bg2_39.toInt nx2_40.toInt) ∧ (1 = 1 ∧ zAtom fb ln.toInt 4 bg.toInt (.ok bg2_39.toInt) ∧ (-1) = (-1) ∨ 1 = 0 ∧ zAtom fb ln.toInt 4 bg.toInt (.bad ((-1) : Int32).toInt)) from ⟨(by first | assumption | omega | exact Or.inl (by decide) | exact Or.inr (by omega)), (by decide), (by first | assumption | omega | exact Or.inl (by decide) | exact Or.inr (by omega)), (by first | assumption | omega | exact Or.inl (by decide) | exact Or.inr (by omega)), (by first | assumption | omega | exact Or.inl (by decide) | exact Or.inr (by omega)), (by assumption), (Or.inl ⟨rfl, zAt_pl (zor_n hq2_k hq15_k) (zPl_word (Or.inr hq42_k) hq42_km), rfl⟩)⟩) hP hD
        · skip
          refine lv_if_eq (tgt := 98) hx hb dX2_readAtom_82 (by decide) (fun _ => ?_) (fun c48 => absurd (by decide) c48)
          refine lv_aload_n hx hb dX2_readAtom_98 rfl (lv_at hl 0 rfl) ?_
          refine mcallV' (g := g) (q0 := 0) (ci := 2) (As := []) (rest := []) St hK hT hA hP hD hS hl.1 [0, 2, 1] [] rfl rfl rfl (c_lt_readSumF l g lt ta lo ab sz ln kd bg nx fb lc lz ll lm lg ld fc b_lz hln hnx hbg hkd hTk) (cwV 0 hts (zgL (zl4 k313 k314 k315 k309) k304) rfl rfl rfl (by decide +kernel) ⟨Nat.le_of_ble_eq_true rfl, Nat.le_of_ble_eq_true rfl⟩) rfl rfl rfl rfl (Nat.le_of_ble_eq_true rfl) dX2_readAtom_99 ⟨(Nat.le_of_ble_eq_true rfl), (Nat.le_of_ble_eq_true rfl)⟩ (fun u_ H locs hq56 hP hD hS => ?_)
          obtain ⟨kd2_49, bg2_50, nx2_51, ft2_52, lz2_53, fc2_54, q_55⟩ := u_
          replace hq56 : (0 ≤ lz2_53.toInt ∧ lz2_53.toInt ≤ 400) ∧ (-1 ≤ ft2_52.toInt) ∧ (0 ≤ nx2_51.toInt ∧ nx2_51.toInt ≤ 400) ∧ (0 ≤ bg2_50.toInt ∧ bg2_50.toInt ≤ 400) ∧ (zKd kd2_49.toInt bg2_50.toInt nx2_51.toInt) ∧ (zTk fb ln.toInt kd2_49.toInt bg2_50.toInt nx2_51.toInt) ∧ (q_55 = 1 ∧ zSum fb ln.toInt bg.toInt (.ok bg2_50.toInt) ∧ (-1) = ft2_52 ∨ q_55 = 0 ∧ zSum fb ln.toInt bg.toInt (.bad ft2_52.toInt)) := hq56
          have hP : va_P g.1 vwCl (List.flatten [bLT g lt ta lo, bTape g ta ab sz ln kd2_49 bg2_50 nx2_51 ft2_52 fb, bLaw g lo lc lz2_53 ll lm lg ld fc2_54]) H := hP
          have hD : va_D A (List.flatten [bLT g lt ta lo, bTape g ta ab sz ln kd2_49 bg2_50 nx2_51 ft2_52 fb, bLaw g lo lc lz2_53 ll lm lg ld fc2_54]) := hD
          refine W.widen (k := 0) (n := 0) (Nat.le_of_ble_eq_true rfl) (Nat.le_of_ble_eq_true rfl) ?_
          refine W.eq (g2 := F0 m 102 ls [.int q_55]) rfl ?_
          obtain ⟨hq56_0, hq56_1, hq56_2, hq56_3, hq56_4, hq56_5, hq56_6⟩ := hq56
          rcases hq56_6 with ⟨rfl, hq56_k, rfl⟩ | ⟨rfl, hq56_k⟩
          · skip
            refine lv_if_ne (tgt := 107) hx hb dX2_readAtom_102 (by decide) (fun _ => ?_) (fun c57 => absurd c57 (by decide))
            refine lv_aload_n hx hb dX2_readAtom_107 rfl (lv_at hl 0 rfl) ?_
            refine va_get (D := g.1) (ci := 2) (v := .ref ta) (C := RX2) (T := TX2) (N := 2) hx hb hts izRX2 hown hK hP 0 rfl rfl 0 (by decide) (hts _ k290) (fun x9 h9 => u_same (hts _ k291) x9 h9) rfl dX2_readAtom_108 ?_
            refine lv_bipush (v := 60) hx hb dX2_readAtom_111 (by decide) ?_
            have hL60 : (60 : Int32).toInt = 60 := by decide
            refine mcallV' (g := g) (q0 := 0) (ci := 6) (As := [.int 60]) (rest := []) St hK hT hA hP hD hS hl.1 [1] [0, 2] rfl rfl rfl (c_t_isSignF l g ta ab sz ln kd2_49 bg2_50 nx2_51 (-1) fb 60 hln hq56_2 hq56_3 hq56_4 hq56_5) (cwV 1 hts (zgL (zl4 k305 k288 k289 k277) k285) rfl rfl rfl (by decide +kernel) ⟨Nat.le_of_ble_eq_true rfl, Nat.le_of_ble_eq_true rfl⟩) rfl rfl rfl rfl (Nat.le_of_ble_eq_true rfl) dX2_readAtom_113 ⟨(Nat.le_of_ble_eq_true rfl), (Nat.le_of_ble_eq_true rfl)⟩ (fun q_58 H locs hq59 hP hD hS => ?_)
            replace hq59 : (q_58 = 1 ∧ zisS fb ln.toInt bg2_50.toInt (60 : Int32).toInt ∨ q_58 = 0 ∧ ¬ zisS fb ln.toInt bg2_50.toInt (60 : Int32).toInt) := hq59
            have hP : va_P g.1 vwCl (List.flatten [bLT g lt ta lo, bLaw g lo lc lz2_53 ll lm lg ld fc2_54, bTape g ta ab sz ln kd2_49 bg2_50 nx2_51 (-1) fb]) H := hP
            have hD : va_D A (List.flatten [bLT g lt ta lo, bLaw g lo lc lz2_53 ll lm lg ld fc2_54, bTape g ta ab sz ln kd2_49 bg2_50 nx2_51 (-1) fb]) := hD
            refine W.widen (k := 0) (n := 0) (Nat.le_of_ble_eq_true rfl) (Nat.le_of_ble_eq_true rfl) ?_
            refine W.eq (g2 := F0 m 116 ls [.int q_58]) rfl ?_
            rcases hq59 with ⟨rfl, hq59_k⟩ | ⟨rfl, hq59_k⟩
            · skip
              refine lv_istore_n (lv' := [(2, .int 1), (0, .ref lt), (1, .int 2)]) hx hb dX2_readAtom_116 rfl hl (by decide) rfl (fun ls hl => ?_)
              refine lv_iload_n hx hb dX2_readAtom_117 rfl (lv_at hl 0 rfl) ?_
              refine lv_if_ne (tgt := 141) hx hb dX2_readAtom_118 (by decide) (fun _ => ?_) (fun c60 => absurd c60 (by decide))
              refine lv_aload_n hx hb dX2_readAtom_141 rfl (lv_at hl 1 rfl) ?_
              refine va_get (D := g.1) (ci := 2) (v := .ref ta) (C := RX2) (T := TX2) (N := 2) hx hb hts izRX2 hown hK hP 0 rfl rfl 0 (by decide) (hts _ k290) (fun x9 h9 => u_same (hts _ k291) x9 h9) rfl dX2_readAtom_142 ?_
              refine mcallV' (g := g) (q0 := 0) (ci := 6) (As := []) (rest := []) St hK hT hA hP hD hS hl.1 [2] [0, 1] rfl rfl rfl (c_t_stepF l g ta ab sz ln kd2_49 bg2_50 nx2_51 (-1) fb hln hq56_2) (cwV 0 hts (zgL (zl4 k296 k275 k276 k277) k271) rfl rfl rfl (by decide +kernel) ⟨Nat.le_of_ble_eq_true rfl, Nat.le_of_ble_eq_true rfl⟩) rfl rfl rfl rfl (Nat.le_of_ble_eq_true rfl) dX2_readAtom_145 ⟨(Nat.le_of_ble_eq_true rfl), (Nat.le_of_ble_eq_true rfl)⟩ (fun u_ H locs hq64 hP hD hS => ?_)
              obtain ⟨kd2_61, bg2_62, nx2_63⟩ := u_
              replace hq64 : (0 ≤ nx2_63.toInt ∧ nx2_63.toInt ≤ 400) ∧ (0 ≤ bg2_62.toInt ∧ bg2_62.toInt ≤ 400) ∧ (zKd kd2_61.toInt bg2_62.toInt nx2_63.toInt) ∧ (zSk fb ln.toInt nx2_51.toInt bg2_62.toInt) ∧ (zTk fb ln.toInt kd2_61.toInt bg2_62.toInt nx2_63.toInt) := hq64
              have hP : va_P g.1 vwCl (List.flatten [bLT g lt ta lo, bLaw g lo lc lz2_53 ll lm lg ld fc2_54, bTape g ta ab sz ln kd2_61 bg2_62 nx2_63 (-1) fb]) H := hP
              have hD : va_D A (List.flatten [bLT g lt ta lo, bLaw g lo lc lz2_53 ll lm lg ld fc2_54, bTape g ta ab sz ln kd2_61 bg2_62 nx2_63 (-1) fb]) := hD
              refine W.widen (k := 0) (n := 0) (Nat.le_of_ble_eq_true rfl) (Nat.le_of_ble_eq_true rfl) ?_
              refine W.eq (g2 := F0 m 148 ls []) rfl ?_
              obtain ⟨hq64_0, hq64_1, hq64_2, hq64_3, hq64_4⟩ := hq64
              refine lv_aload_n hx hb dX2_readAtom_148 rfl (lv_at hl 1 rfl) ?_
              refine va_get (D := g.1) (ci := 2) (v := .ref lo) (C := RX2) (T := TX2) (N := 2) hx hb hts izRX2 hown hK hP 0 rfl rfl 1 (by decide) (hts _ k210) (fun _ h9 => h9) rfl dX2_readAtom_149 ?_
              refine lv_bipush (v := 7) hx hb dX2_readAtom_152 (by decide) ?_
              refine lv_iconst (v := 0) hx hb dX2_readAtom_154 (by decide) ?_
              refine mcallV' (g := g) (q0 := 0) (ci := 1) (As := [.int 7, .int 0]) (rest := []) St hK hT hA hP hD hS hl.1 [1] [0, 2] rfl rfl rfl (c_l_put l g lo lc lz2_53 ll lm lg ld fc2_54 7 0 hq56_0) (cwV 2 hts (zgL (zl4 k297 k298 k299 k85) k202) rfl rfl rfl (by decide +kernel) ⟨Nat.le_of_ble_eq_true rfl, Nat.le_of_ble_eq_true rfl⟩) rfl rfl rfl rfl (Nat.le_of_ble_eq_true rfl) dX2_readAtom_155 ⟨(Nat.le_of_ble_eq_true rfl), (Nat.le_of_ble_eq_true rfl)⟩ (fun u_ H locs hq68 hP hD hS => ?_)
              obtain ⟨lz2_65, fc2_66, q_67⟩ := u_
              replace hq68 : (0 ≤ lz2_65.toInt ∧ lz2_65.toInt ≤ 400) := hq68
              have hP : va_P g.1 vwCl (List.flatten [bLT g lt ta lo, bTape g ta ab sz ln kd2_61 bg2_62 nx2_63 (-1) fb, bLaw g lo lc lz2_65 ll lm lg ld fc2_66]) H := hP
              have hD : va_D A (List.flatten [bLT g lt ta lo, bTape g ta ab sz ln kd2_61 bg2_62 nx2_63 (-1) fb, bLaw g lo lc lz2_65 ll lm lg ld fc2_66]) := hD
              refine W.widen (k := 0) (n := 0) (Nat.le_of_ble_eq_true rfl) (Nat.le_of_ble_eq_true rfl) ?_
              refine W.eq (g2 := F0 m 158 ls [.int q_67]) rfl ?_
              refine lv_pop hx hb dX2_readAtom_158 rfl ?_
              refine lv_aload_n hx hb dX2_readAtom_159 rfl (lv_at hl 1 rfl) ?_
              refine mcallV' (g := g) (q0 := 0) (ci := 2) (As := []) (rest := []) St hK hT hA hP hD hS hl.1 [0, 1, 2] [] rfl rfl rfl (c_lt_readSumF l g lt ta lo ab sz ln kd2_61 bg2_62 nx2_63 fb lc lz2_65 ll lm lg ld fc2_66 hq68 hln hq64_0 hq64_1 hq64_2 hq64_4) (cwV 0 hts (zgL (zl4 k313 k314 k315 k309) k304) rfl rfl rfl (by decide +kernel) ⟨Nat.le_of_ble_eq_true rfl, Nat.le_of_ble_eq_true rfl⟩) rfl rfl rfl rfl (Nat.le_of_ble_eq_true rfl) dX2_readAtom_160 ⟨(Nat.le_of_ble_eq_true rfl), (Nat.le_of_ble_eq_true rfl)⟩ (fun u_ H locs hq76 hP hD hS => ?_)
              obtain ⟨kd2_69, bg2_70, nx2_71, ft2_72, lz2_73, fc2_74, q_75⟩ := u_
              replace hq76 : (0 ≤ lz2_73.toInt ∧ lz2_73.toInt ≤ 400) ∧ (-1 ≤ ft2_72.toInt) ∧ (0 ≤ nx2_71.toInt ∧ nx2_71.toInt ≤ 400) ∧ (0 ≤ bg2_70.toInt ∧ bg2_70.toInt ≤ 400) ∧ (zKd kd2_69.toInt bg2_70.toInt nx2_71.toInt) ∧ (zTk fb ln.toInt kd2_69.toInt bg2_70.toInt nx2_71.toInt) ∧ (q_75 = 1 ∧ zSum fb ln.toInt bg2_62.toInt (.ok bg2_70.toInt) ∧ (-1) = ft2_72 ∨ q_75 = 0 ∧ zSum fb ln.toInt bg2_62.toInt (.bad ft2_72.toInt)) := hq76
              have hP : va_P g.1 vwCl (List.flatten [bLT g lt ta lo, bTape g ta ab sz ln kd2_69 bg2_70 nx2_71 ft2_72 fb, bLaw g lo lc lz2_73 ll lm lg ld fc2_74]) H := hP
              have hD : va_D A (List.flatten [bLT g lt ta lo, bTape g ta ab sz ln kd2_69 bg2_70 nx2_71 ft2_72 fb, bLaw g lo lc lz2_73 ll lm lg ld fc2_74]) := hD
              refine W.widen (k := 0) (n := 0) (Nat.le_of_ble_eq_true rfl) (Nat.le_of_ble_eq_true rfl) ?_
              refine W.eq (g2 := F0 m 163 ls [.int q_75]) rfl ?_
              obtain ⟨hq76_0, hq76_1, hq76_2, hq76_3, hq76_4, hq76_5, hq76_6⟩ := hq76
              rcases hq76_6 with ⟨rfl, hq76_k, rfl⟩ | ⟨rfl, hq76_k⟩
              · skip
                refine lv_if_ne (tgt := 168) hx hb dX2_readAtom_163 (by decide) (fun _ => ?_) (fun c77 => absurd c77 (by decide))
                refine lv_aload_n hx hb dX2_readAtom_168 rfl (lv_at hl 1 rfl) ?_
                refine va_get (D := g.1) (ci := 2) (v := .ref lo) (C := RX2) (T := TX2) (N := 2) hx hb hts izRX2 hown hK hP 0 rfl rfl 1 (by decide) (hts _ k210) (fun _ h9 => h9) rfl dX2_readAtom_169 ?_
                refine lv_iload_n hx hb dX2_readAtom_172 rfl (lv_at hl 0 rfl) ?_
                refine lv_if_eq (tgt := 181) hx hb dX2_readAtom_173 (by decide) (fun c78 => absurd c78 (by decide)) (fun _ => ?_)
                refine lv_bipush (v := 8) hx hb dX2_readAtom_176 (by decide) ?_
                refine lv_goto (tgt := 183) hx hb dX2_readAtom_178 (by decide) ?_
                refine lv_iconst (v := 0) hx hb dX2_readAtom_183 (by decide) ?_
                refine mcallV' (g := g) (q0 := 0) (ci := 1) (As := [.int 8, .int 0]) (rest := []) St hK hT hA hP hD hS hl.1 [2] [0, 1] rfl rfl rfl (c_l_put l g lo lc lz2_73 ll lm lg ld fc2_74 8 0 hq76_0) (cwV 2 hts (zgL (zl4 k297 k298 k299 k85) k202) rfl rfl rfl (by decide +kernel) ⟨Nat.le_of_ble_eq_true rfl, Nat.le_of_ble_eq_true rfl⟩) rfl rfl rfl rfl (Nat.le_of_ble_eq_true rfl) dX2_readAtom_184 ⟨(Nat.le_of_ble_eq_true rfl), (Nat.le_of_ble_eq_true rfl)⟩ (fun u_ H locs hq82 hP hD hS => ?_)
                obtain ⟨lz2_79, fc2_80, q_81⟩ := u_
                replace hq82 : (0 ≤ lz2_79.toInt ∧ lz2_79.toInt ≤ 400) := hq82
                have hP : va_P g.1 vwCl (List.flatten [bLT g lt ta lo, bTape g ta ab sz ln kd2_69 bg2_70 nx2_71 (-1) fb, bLaw g lo lc lz2_79 ll lm lg ld fc2_80]) H := hP
                have hD : va_D A (List.flatten [bLT g lt ta lo, bTape g ta ab sz ln kd2_69 bg2_70 nx2_71 (-1) fb, bLaw g lo lc lz2_79 ll lm lg ld fc2_80]) := hD
                refine W.widen (k := 0) (n := 0) (Nat.le_of_ble_eq_true rfl) (Nat.le_of_ble_eq_true rfl) ?_
                refine W.eq (g2 := F0 m 187 ls [.int q_81]) rfl ?_
                refine lv_pop hx hb dX2_readAtom_187 rfl ?_
                refine lv_iconst (v := 1) hx hb dX2_readAtom_188 (by decide) ?_
                have hP : va_P g.1 vwCl (List.flatten [bLT g lt ta lo, bTape g ta ab sz ln kd2_69 bg2_70 nx2_71 (-1) fb, bLaw g lo lc lz2_79 ll lm lg ld fc2_80]) H := hP
                have hD : va_D A (List.flatten [bLT g lt ta lo, bTape g ta ab sz ln kd2_69 bg2_70 nx2_71 (-1) fb, bLaw g lo lc lz2_79 ll lm lg ld fc2_80]) := hD
                exact mret_z hx hb hr hlocks hS (Nat.le_of_ble_eq_true rfl) (Nat.le_of_ble_eq_true rfl) dX2_readAtom_189 (kd2_69, bg2_70, nx2_71, -1, lz2_79, fc2_80, (1 : Int32)) rfl (by decide) (show (0 ≤ lz2_79.toInt ∧ lz2_79.toInt ≤ 400) ∧ (-1 ≤ ((-1) : Int32).toInt) ∧ (0 ≤ nx2_71.toInt ∧ nx2_71.toInt ≤ 400) ∧ (0 ≤ bg2_70.toInt ∧ bg2_70.toInt ≤ 400) ∧ (zKd kd2_69.toInt bg2_70.toInt nx2_71.toInt) ∧ (zTk fb ln.toInt kd2_69.toInt bg2_70.toInt nx2_71.toInt) ∧ (1 = 1 ∧ zAtom fb ln.toInt 4 bg.toInt (.ok bg2_70.toInt) ∧ (-1) = (-1) ∨ 1 = 0 ∧ zAtom fb ln.toInt 4 bg.toInt (.bad ((-1) : Int32).toInt)) from ⟨(by first | assumption | omega | exact Or.inl (by decide) | exact Or.inr (by omega)), (by decide), (by first | assumption | omega | exact Or.inl (by decide) | exact Or.inr (by omega)), (by first | assumption | omega | exact Or.inl (by decide) | exact Or.inr (by omega)), (by first | assumption | omega | exact Or.inl (by decide) | exact Or.inr (by omega)), (by assumption), (Or.inl ⟨rfl, zAt_pl (zor_n hq2_k hq15_k) (zPl_all (zor_n hq31_k hq42_k) hq56_k (Or.inl hq59_k) (zMv_mk hq56_5 hq64_3) hq76_k), rfl⟩)⟩) hP hD
              · skip
                refine lv_if_ne (tgt := 168) hx hb dX2_readAtom_163 (by decide) (fun c83 => absurd (by decide) c83) (fun _ => ?_)
                refine lv_iconst (v := 0) hx hb dX2_readAtom_166 (by decide) ?_
                have hP : va_P g.1 vwCl (List.flatten [bLT g lt ta lo, bTape g ta ab sz ln kd2_69 bg2_70 nx2_71 ft2_72 fb, bLaw g lo lc lz2_73 ll lm lg ld fc2_74]) H := hP
                have hD : va_D A (List.flatten [bLT g lt ta lo, bTape g ta ab sz ln kd2_69 bg2_70 nx2_71 ft2_72 fb, bLaw g lo lc lz2_73 ll lm lg ld fc2_74]) := hD
                exact mret_z hx hb hr hlocks hS (Nat.le_of_ble_eq_true rfl) (Nat.le_of_ble_eq_true rfl) dX2_readAtom_167 (kd2_69, bg2_70, nx2_71, ft2_72, lz2_73, fc2_74, (0 : Int32)) rfl (by decide) (show (0 ≤ lz2_73.toInt ∧ lz2_73.toInt ≤ 400) ∧ (-1 ≤ ft2_72.toInt) ∧ (0 ≤ nx2_71.toInt ∧ nx2_71.toInt ≤ 400) ∧ (0 ≤ bg2_70.toInt ∧ bg2_70.toInt ≤ 400) ∧ (zKd kd2_69.toInt bg2_70.toInt nx2_71.toInt) ∧ (zTk fb ln.toInt kd2_69.toInt bg2_70.toInt nx2_71.toInt) ∧ (0 = 1 ∧ zAtom fb ln.toInt 4 bg.toInt (.ok bg2_70.toInt) ∧ (-1) = ft2_72 ∨ 0 = 0 ∧ zAtom fb ln.toInt 4 bg.toInt (.bad ft2_72.toInt)) from ⟨(by first | assumption | omega | exact Or.inl (by decide) | exact Or.inr (by omega)), (by first | decide | omega), (by first | assumption | omega | exact Or.inl (by decide) | exact Or.inr (by omega)), (by first | assumption | omega | exact Or.inl (by decide) | exact Or.inr (by omega)), (by first | assumption | omega | exact Or.inl (by decide) | exact Or.inr (by omega)), (by assumption), (Or.inr ⟨rfl, zAt_pl (zor_n hq2_k hq15_k) (zPl_all (zor_n hq31_k hq42_k) hq56_k (Or.inl hq59_k) (zMv_mk hq56_5 hq64_3) hq76_k)⟩)⟩) hP hD
            · skip
              refine lv_istore_n (lv' := [(2, .int 0), (0, .ref lt), (1, .int 2)]) hx hb dX2_readAtom_116 rfl hl (by decide) rfl (fun ls hl => ?_)
              refine lv_iload_n hx hb dX2_readAtom_117 rfl (lv_at hl 0 rfl) ?_
              refine lv_if_ne (tgt := 141) hx hb dX2_readAtom_118 (by decide) (fun c84 => absurd (by decide) c84) (fun _ => ?_)
              refine lv_aload_n hx hb dX2_readAtom_121 rfl (lv_at hl 1 rfl) ?_
              refine va_get (D := g.1) (ci := 2) (v := .ref ta) (C := RX2) (T := TX2) (N := 2) hx hb hts izRX2 hown hK hP 0 rfl rfl 0 (by decide) (hts _ k290) (fun x9 h9 => u_same (hts _ k291) x9 h9) rfl dX2_readAtom_122 ?_
              refine lv_bipush (v := 62) hx hb dX2_readAtom_125 (by decide) ?_
              have hL62 : (62 : Int32).toInt = 62 := by decide
              refine mcallV' (g := g) (q0 := 0) (ci := 6) (As := [.int 62]) (rest := []) St hK hT hA hP hD hS hl.1 [2] [0, 1] rfl rfl rfl (c_t_isSignF l g ta ab sz ln kd2_49 bg2_50 nx2_51 (-1) fb 62 hln hq56_2 hq56_3 hq56_4 hq56_5) (cwV 1 hts (zgL (zl4 k305 k288 k289 k277) k285) rfl rfl rfl (by decide +kernel) ⟨Nat.le_of_ble_eq_true rfl, Nat.le_of_ble_eq_true rfl⟩) rfl rfl rfl rfl (Nat.le_of_ble_eq_true rfl) dX2_readAtom_127 ⟨(Nat.le_of_ble_eq_true rfl), (Nat.le_of_ble_eq_true rfl)⟩ (fun q_85 H locs hq86 hP hD hS => ?_)
              replace hq86 : (q_85 = 1 ∧ zisS fb ln.toInt bg2_50.toInt (62 : Int32).toInt ∨ q_85 = 0 ∧ ¬ zisS fb ln.toInt bg2_50.toInt (62 : Int32).toInt) := hq86
              have hP : va_P g.1 vwCl (List.flatten [bLT g lt ta lo, bLaw g lo lc lz2_53 ll lm lg ld fc2_54, bTape g ta ab sz ln kd2_49 bg2_50 nx2_51 (-1) fb]) H := hP
              have hD : va_D A (List.flatten [bLT g lt ta lo, bLaw g lo lc lz2_53 ll lm lg ld fc2_54, bTape g ta ab sz ln kd2_49 bg2_50 nx2_51 (-1) fb]) := hD
              refine W.widen (k := 0) (n := 0) (Nat.le_of_ble_eq_true rfl) (Nat.le_of_ble_eq_true rfl) ?_
              refine W.eq (g2 := F0 m 130 ls [.int q_85]) rfl ?_
              rcases hq86 with ⟨rfl, hq86_k⟩ | ⟨rfl, hq86_k⟩
              · skip
                refine lv_if_ne (tgt := 141) hx hb dX2_readAtom_130 (by decide) (fun _ => ?_) (fun c87 => absurd c87 (by decide))
                refine lv_aload_n hx hb dX2_readAtom_141 rfl (lv_at hl 1 rfl) ?_
                refine va_get (D := g.1) (ci := 2) (v := .ref ta) (C := RX2) (T := TX2) (N := 2) hx hb hts izRX2 hown hK hP 0 rfl rfl 0 (by decide) (hts _ k290) (fun x9 h9 => u_same (hts _ k291) x9 h9) rfl dX2_readAtom_142 ?_
                refine mcallV' (g := g) (q0 := 0) (ci := 6) (As := []) (rest := []) St hK hT hA hP hD hS hl.1 [2] [0, 1] rfl rfl rfl (c_t_stepF l g ta ab sz ln kd2_49 bg2_50 nx2_51 (-1) fb hln hq56_2) (cwV 0 hts (zgL (zl4 k296 k275 k276 k277) k271) rfl rfl rfl (by decide +kernel) ⟨Nat.le_of_ble_eq_true rfl, Nat.le_of_ble_eq_true rfl⟩) rfl rfl rfl rfl (Nat.le_of_ble_eq_true rfl) dX2_readAtom_145 ⟨(Nat.le_of_ble_eq_true rfl), (Nat.le_of_ble_eq_true rfl)⟩ (fun u_ H locs hq91 hP hD hS => ?_)
                obtain ⟨kd2_88, bg2_89, nx2_90⟩ := u_
                replace hq91 : (0 ≤ nx2_90.toInt ∧ nx2_90.toInt ≤ 400) ∧ (0 ≤ bg2_89.toInt ∧ bg2_89.toInt ≤ 400) ∧ (zKd kd2_88.toInt bg2_89.toInt nx2_90.toInt) ∧ (zSk fb ln.toInt nx2_51.toInt bg2_89.toInt) ∧ (zTk fb ln.toInt kd2_88.toInt bg2_89.toInt nx2_90.toInt) := hq91
                have hP : va_P g.1 vwCl (List.flatten [bLT g lt ta lo, bLaw g lo lc lz2_53 ll lm lg ld fc2_54, bTape g ta ab sz ln kd2_88 bg2_89 nx2_90 (-1) fb]) H := hP
                have hD : va_D A (List.flatten [bLT g lt ta lo, bLaw g lo lc lz2_53 ll lm lg ld fc2_54, bTape g ta ab sz ln kd2_88 bg2_89 nx2_90 (-1) fb]) := hD
                refine W.widen (k := 0) (n := 0) (Nat.le_of_ble_eq_true rfl) (Nat.le_of_ble_eq_true rfl) ?_
                refine W.eq (g2 := F0 m 148 ls []) rfl ?_
                obtain ⟨hq91_0, hq91_1, hq91_2, hq91_3, hq91_4⟩ := hq91
                refine lv_aload_n hx hb dX2_readAtom_148 rfl (lv_at hl 1 rfl) ?_
                refine va_get (D := g.1) (ci := 2) (v := .ref lo) (C := RX2) (T := TX2) (N := 2) hx hb hts izRX2 hown hK hP 0 rfl rfl 1 (by decide) (hts _ k210) (fun _ h9 => h9) rfl dX2_readAtom_149 ?_
                refine lv_bipush (v := 7) hx hb dX2_readAtom_152 (by decide) ?_
                refine lv_iconst (v := 0) hx hb dX2_readAtom_154 (by decide) ?_
                refine mcallV' (g := g) (q0 := 0) (ci := 1) (As := [.int 7, .int 0]) (rest := []) St hK hT hA hP hD hS hl.1 [1] [0, 2] rfl rfl rfl (c_l_put l g lo lc lz2_53 ll lm lg ld fc2_54 7 0 hq56_0) (cwV 2 hts (zgL (zl4 k297 k298 k299 k85) k202) rfl rfl rfl (by decide +kernel) ⟨Nat.le_of_ble_eq_true rfl, Nat.le_of_ble_eq_true rfl⟩) rfl rfl rfl rfl (Nat.le_of_ble_eq_true rfl) dX2_readAtom_155 ⟨(Nat.le_of_ble_eq_true rfl), (Nat.le_of_ble_eq_true rfl)⟩ (fun u_ H locs hq95 hP hD hS => ?_)
                obtain ⟨lz2_92, fc2_93, q_94⟩ := u_
                replace hq95 : (0 ≤ lz2_92.toInt ∧ lz2_92.toInt ≤ 400) := hq95
                have hP : va_P g.1 vwCl (List.flatten [bLT g lt ta lo, bTape g ta ab sz ln kd2_88 bg2_89 nx2_90 (-1) fb, bLaw g lo lc lz2_92 ll lm lg ld fc2_93]) H := hP
                have hD : va_D A (List.flatten [bLT g lt ta lo, bTape g ta ab sz ln kd2_88 bg2_89 nx2_90 (-1) fb, bLaw g lo lc lz2_92 ll lm lg ld fc2_93]) := hD
                refine W.widen (k := 0) (n := 0) (Nat.le_of_ble_eq_true rfl) (Nat.le_of_ble_eq_true rfl) ?_
                refine W.eq (g2 := F0 m 158 ls [.int q_94]) rfl ?_
                refine lv_pop hx hb dX2_readAtom_158 rfl ?_
                refine lv_aload_n hx hb dX2_readAtom_159 rfl (lv_at hl 1 rfl) ?_
                refine mcallV' (g := g) (q0 := 0) (ci := 2) (As := []) (rest := []) St hK hT hA hP hD hS hl.1 [0, 1, 2] [] rfl rfl rfl (c_lt_readSumF l g lt ta lo ab sz ln kd2_88 bg2_89 nx2_90 fb lc lz2_92 ll lm lg ld fc2_93 hq95 hln hq91_0 hq91_1 hq91_2 hq91_4) (cwV 0 hts (zgL (zl4 k313 k314 k315 k309) k304) rfl rfl rfl (by decide +kernel) ⟨Nat.le_of_ble_eq_true rfl, Nat.le_of_ble_eq_true rfl⟩) rfl rfl rfl rfl (Nat.le_of_ble_eq_true rfl) dX2_readAtom_160 ⟨(Nat.le_of_ble_eq_true rfl), (Nat.le_of_ble_eq_true rfl)⟩ (fun u_ H locs hq103 hP hD hS => ?_)
                obtain ⟨kd2_96, bg2_97, nx2_98, ft2_99, lz2_100, fc2_101, q_102⟩ := u_
                replace hq103 : (0 ≤ lz2_100.toInt ∧ lz2_100.toInt ≤ 400) ∧ (-1 ≤ ft2_99.toInt) ∧ (0 ≤ nx2_98.toInt ∧ nx2_98.toInt ≤ 400) ∧ (0 ≤ bg2_97.toInt ∧ bg2_97.toInt ≤ 400) ∧ (zKd kd2_96.toInt bg2_97.toInt nx2_98.toInt) ∧ (zTk fb ln.toInt kd2_96.toInt bg2_97.toInt nx2_98.toInt) ∧ (q_102 = 1 ∧ zSum fb ln.toInt bg2_89.toInt (.ok bg2_97.toInt) ∧ (-1) = ft2_99 ∨ q_102 = 0 ∧ zSum fb ln.toInt bg2_89.toInt (.bad ft2_99.toInt)) := hq103
                have hP : va_P g.1 vwCl (List.flatten [bLT g lt ta lo, bTape g ta ab sz ln kd2_96 bg2_97 nx2_98 ft2_99 fb, bLaw g lo lc lz2_100 ll lm lg ld fc2_101]) H := hP
                have hD : va_D A (List.flatten [bLT g lt ta lo, bTape g ta ab sz ln kd2_96 bg2_97 nx2_98 ft2_99 fb, bLaw g lo lc lz2_100 ll lm lg ld fc2_101]) := hD
                refine W.widen (k := 0) (n := 0) (Nat.le_of_ble_eq_true rfl) (Nat.le_of_ble_eq_true rfl) ?_
                refine W.eq (g2 := F0 m 163 ls [.int q_102]) rfl ?_
                obtain ⟨hq103_0, hq103_1, hq103_2, hq103_3, hq103_4, hq103_5, hq103_6⟩ := hq103
                rcases hq103_6 with ⟨rfl, hq103_k, rfl⟩ | ⟨rfl, hq103_k⟩
                · skip
                  refine lv_if_ne (tgt := 168) hx hb dX2_readAtom_163 (by decide) (fun _ => ?_) (fun c104 => absurd c104 (by decide))
                  refine lv_aload_n hx hb dX2_readAtom_168 rfl (lv_at hl 1 rfl) ?_
                  refine va_get (D := g.1) (ci := 2) (v := .ref lo) (C := RX2) (T := TX2) (N := 2) hx hb hts izRX2 hown hK hP 0 rfl rfl 1 (by decide) (hts _ k210) (fun _ h9 => h9) rfl dX2_readAtom_169 ?_
                  refine lv_iload_n hx hb dX2_readAtom_172 rfl (lv_at hl 0 rfl) ?_
                  refine lv_if_eq (tgt := 181) hx hb dX2_readAtom_173 (by decide) (fun _ => ?_) (fun c105 => absurd (by decide) c105)
                  refine lv_bipush (v := 9) hx hb dX2_readAtom_181 (by decide) ?_
                  refine lv_iconst (v := 0) hx hb dX2_readAtom_183 (by decide) ?_
                  refine mcallV' (g := g) (q0 := 0) (ci := 1) (As := [.int 9, .int 0]) (rest := []) St hK hT hA hP hD hS hl.1 [2] [0, 1] rfl rfl rfl (c_l_put l g lo lc lz2_100 ll lm lg ld fc2_101 9 0 hq103_0) (cwV 2 hts (zgL (zl4 k297 k298 k299 k85) k202) rfl rfl rfl (by decide +kernel) ⟨Nat.le_of_ble_eq_true rfl, Nat.le_of_ble_eq_true rfl⟩) rfl rfl rfl rfl (Nat.le_of_ble_eq_true rfl) dX2_readAtom_184 ⟨(Nat.le_of_ble_eq_true rfl), (Nat.le_of_ble_eq_true rfl)⟩ (fun u_ H locs hq109 hP hD hS => ?_)
                  obtain ⟨lz2_106, fc2_107, q_108⟩ := u_
                  replace hq109 : (0 ≤ lz2_106.toInt ∧ lz2_106.toInt ≤ 400) := hq109
                  have hP : va_P g.1 vwCl (List.flatten [bLT g lt ta lo, bTape g ta ab sz ln kd2_96 bg2_97 nx2_98 (-1) fb, bLaw g lo lc lz2_106 ll lm lg ld fc2_107]) H := hP
                  have hD : va_D A (List.flatten [bLT g lt ta lo, bTape g ta ab sz ln kd2_96 bg2_97 nx2_98 (-1) fb, bLaw g lo lc lz2_106 ll lm lg ld fc2_107]) := hD
                  refine W.widen (k := 0) (n := 0) (Nat.le_of_ble_eq_true rfl) (Nat.le_of_ble_eq_true rfl) ?_
                  refine W.eq (g2 := F0 m 187 ls [.int q_108]) rfl ?_
                  refine lv_pop hx hb dX2_readAtom_187 rfl ?_
                  refine lv_iconst (v := 1) hx hb dX2_readAtom_188 (by decide) ?_
                  have hP : va_P g.1 vwCl (List.flatten [bLT g lt ta lo, bTape g ta ab sz ln kd2_96 bg2_97 nx2_98 (-1) fb, bLaw g lo lc lz2_106 ll lm lg ld fc2_107]) H := hP
                  have hD : va_D A (List.flatten [bLT g lt ta lo, bTape g ta ab sz ln kd2_96 bg2_97 nx2_98 (-1) fb, bLaw g lo lc lz2_106 ll lm lg ld fc2_107]) := hD
                  exact mret_z hx hb hr hlocks hS (Nat.le_of_ble_eq_true rfl) (Nat.le_of_ble_eq_true rfl) dX2_readAtom_189 (kd2_96, bg2_97, nx2_98, -1, lz2_106, fc2_107, (1 : Int32)) rfl (by decide) (show (0 ≤ lz2_106.toInt ∧ lz2_106.toInt ≤ 400) ∧ (-1 ≤ ((-1) : Int32).toInt) ∧ (0 ≤ nx2_98.toInt ∧ nx2_98.toInt ≤ 400) ∧ (0 ≤ bg2_97.toInt ∧ bg2_97.toInt ≤ 400) ∧ (zKd kd2_96.toInt bg2_97.toInt nx2_98.toInt) ∧ (zTk fb ln.toInt kd2_96.toInt bg2_97.toInt nx2_98.toInt) ∧ (1 = 1 ∧ zAtom fb ln.toInt 4 bg.toInt (.ok bg2_97.toInt) ∧ (-1) = (-1) ∨ 1 = 0 ∧ zAtom fb ln.toInt 4 bg.toInt (.bad ((-1) : Int32).toInt)) from ⟨(by first | assumption | omega | exact Or.inl (by decide) | exact Or.inr (by omega)), (by decide), (by first | assumption | omega | exact Or.inl (by decide) | exact Or.inr (by omega)), (by first | assumption | omega | exact Or.inl (by decide) | exact Or.inr (by omega)), (by first | assumption | omega | exact Or.inl (by decide) | exact Or.inr (by omega)), (by assumption), (Or.inl ⟨rfl, zAt_pl (zor_n hq2_k hq15_k) (zPl_all (zor_n hq31_k hq42_k) hq56_k (Or.inr hq86_k) (zMv_mk hq56_5 hq91_3) hq103_k), rfl⟩)⟩) hP hD
                · skip
                  refine lv_if_ne (tgt := 168) hx hb dX2_readAtom_163 (by decide) (fun c110 => absurd (by decide) c110) (fun _ => ?_)
                  refine lv_iconst (v := 0) hx hb dX2_readAtom_166 (by decide) ?_
                  have hP : va_P g.1 vwCl (List.flatten [bLT g lt ta lo, bTape g ta ab sz ln kd2_96 bg2_97 nx2_98 ft2_99 fb, bLaw g lo lc lz2_100 ll lm lg ld fc2_101]) H := hP
                  have hD : va_D A (List.flatten [bLT g lt ta lo, bTape g ta ab sz ln kd2_96 bg2_97 nx2_98 ft2_99 fb, bLaw g lo lc lz2_100 ll lm lg ld fc2_101]) := hD
                  exact mret_z hx hb hr hlocks hS (Nat.le_of_ble_eq_true rfl) (Nat.le_of_ble_eq_true rfl) dX2_readAtom_167 (kd2_96, bg2_97, nx2_98, ft2_99, lz2_100, fc2_101, (0 : Int32)) rfl (by decide) (show (0 ≤ lz2_100.toInt ∧ lz2_100.toInt ≤ 400) ∧ (-1 ≤ ft2_99.toInt) ∧ (0 ≤ nx2_98.toInt ∧ nx2_98.toInt ≤ 400) ∧ (0 ≤ bg2_97.toInt ∧ bg2_97.toInt ≤ 400) ∧ (zKd kd2_96.toInt bg2_97.toInt nx2_98.toInt) ∧ (zTk fb ln.toInt kd2_96.toInt bg2_97.toInt nx2_98.toInt) ∧ (0 = 1 ∧ zAtom fb ln.toInt 4 bg.toInt (.ok bg2_97.toInt) ∧ (-1) = ft2_99 ∨ 0 = 0 ∧ zAtom fb ln.toInt 4 bg.toInt (.bad ft2_99.toInt)) from ⟨(by first | assumption | omega | exact Or.inl (by decide) | exact Or.inr (by omega)), (by first | decide | omega), (by first | assumption | omega | exact Or.inl (by decide) | exact Or.inr (by omega)), (by first | assumption | omega | exact Or.inl (by decide) | exact Or.inr (by omega)), (by first | assumption | omega | exact Or.inl (by decide) | exact Or.inr (by omega)), (by assumption), (Or.inr ⟨rfl, zAt_pl (zor_n hq2_k hq15_k) (zPl_all (zor_n hq31_k hq42_k) hq56_k (Or.inr hq86_k) (zMv_mk hq56_5 hq91_3) hq103_k)⟩)⟩) hP hD
              · skip
                refine lv_if_ne (tgt := 141) hx hb dX2_readAtom_130 (by decide) (fun c111 => absurd (by decide) c111) (fun _ => ?_)
                refine lv_aload_n hx hb dX2_readAtom_133 rfl (lv_at hl 1 rfl) ?_
                refine va_get (D := g.1) (ci := 2) (v := .ref ta) (C := RX2) (T := TX2) (N := 2) hx hb hts izRX2 hown hK hP 0 rfl rfl 0 (by decide) (hts _ k290) (fun x9 h9 => u_same (hts _ k291) x9 h9) rfl dX2_readAtom_134 ?_
                refine mcallV' (g := g) (q0 := 0) (ci := 6) (As := []) (rest := []) St hK hT hA hP hD hS hl.1 [2] [0, 1] rfl rfl rfl (c_t_refuseF l g ta ab sz ln kd2_49 bg2_50 nx2_51 fb ) (cwV 0 hts (zgL (zl4 k303 k279 k280 k277) k269) rfl rfl rfl (by decide +kernel) ⟨Nat.le_of_ble_eq_true rfl, Nat.le_of_ble_eq_true rfl⟩) rfl rfl rfl rfl (Nat.le_of_ble_eq_true rfl) dX2_readAtom_137 ⟨(Nat.le_of_ble_eq_true rfl), (Nat.le_of_ble_eq_true rfl)⟩ (fun _u H locs hq112 hP hD hS => ?_)
                have hP : va_P g.1 vwCl (List.flatten [bLT g lt ta lo, bLaw g lo lc lz2_53 ll lm lg ld fc2_54, bTape g ta ab sz ln kd2_49 bg2_50 nx2_51 bg2_50 fb]) H := hP
                have hD : va_D A (List.flatten [bLT g lt ta lo, bLaw g lo lc lz2_53 ll lm lg ld fc2_54, bTape g ta ab sz ln kd2_49 bg2_50 nx2_51 bg2_50 fb]) := hD
                refine W.widen (k := 0) (n := 0) (Nat.le_of_ble_eq_true rfl) (Nat.le_of_ble_eq_true rfl) ?_
                refine W.eq (g2 := F0 m 140 ls [.int 0]) rfl ?_
                have hP : va_P g.1 vwCl (List.flatten [bLT g lt ta lo, bLaw g lo lc lz2_53 ll lm lg ld fc2_54, bTape g ta ab sz ln kd2_49 bg2_50 nx2_51 bg2_50 fb]) H := hP
                have hD : va_D A (List.flatten [bLT g lt ta lo, bLaw g lo lc lz2_53 ll lm lg ld fc2_54, bTape g ta ab sz ln kd2_49 bg2_50 nx2_51 bg2_50 fb]) := hD
                obtain ⟨hP, hD⟩ := zord (g := g) (Bs' := [bLT g lt ta lo, bTape g ta ab sz ln kd2_49 bg2_50 nx2_51 bg2_50 fb, bLaw g lo lc lz2_53 ll lm lg ld fc2_54]) [0, 2, 1] rfl rfl hP hD
                exact mret_z hx hb hr hlocks hS (Nat.le_of_ble_eq_true rfl) (Nat.le_of_ble_eq_true rfl) dX2_readAtom_140 (kd2_49, bg2_50, nx2_51, bg2_50, lz2_53, fc2_54, (0 : Int32)) rfl (by decide) (show (0 ≤ lz2_53.toInt ∧ lz2_53.toInt ≤ 400) ∧ (-1 ≤ bg2_50.toInt) ∧ (0 ≤ nx2_51.toInt ∧ nx2_51.toInt ≤ 400) ∧ (0 ≤ bg2_50.toInt ∧ bg2_50.toInt ≤ 400) ∧ (zKd kd2_49.toInt bg2_50.toInt nx2_51.toInt) ∧ (zTk fb ln.toInt kd2_49.toInt bg2_50.toInt nx2_51.toInt) ∧ (0 = 1 ∧ zAtom fb ln.toInt 4 bg.toInt (.ok bg2_50.toInt) ∧ (-1) = bg2_50 ∨ 0 = 0 ∧ zAtom fb ln.toInt 4 bg.toInt (.bad bg2_50.toInt)) from ⟨(by first | assumption | omega | exact Or.inl (by decide) | exact Or.inr (by omega)), (by first | decide | omega), (by first | assumption | omega | exact Or.inl (by decide) | exact Or.inr (by omega)), (by first | assumption | omega | exact Or.inl (by decide) | exact Or.inr (by omega)), (by first | assumption | omega | exact Or.inl (by decide) | exact Or.inr (by omega)), (by assumption), (Or.inr ⟨rfl, zAt_pl (zor_n hq2_k hq15_k) (.bad2 (zor_n hq31_k hq42_k) hq56_k (zor_n hq59_k hq86_k))⟩)⟩) hP hD
          · skip
            refine lv_if_ne (tgt := 107) hx hb dX2_readAtom_102 (by decide) (fun c113 => absurd (by decide) c113) (fun _ => ?_)
            refine lv_iconst (v := 0) hx hb dX2_readAtom_105 (by decide) ?_
            have hP : va_P g.1 vwCl (List.flatten [bLT g lt ta lo, bTape g ta ab sz ln kd2_49 bg2_50 nx2_51 ft2_52 fb, bLaw g lo lc lz2_53 ll lm lg ld fc2_54]) H := hP
            have hD : va_D A (List.flatten [bLT g lt ta lo, bTape g ta ab sz ln kd2_49 bg2_50 nx2_51 ft2_52 fb, bLaw g lo lc lz2_53 ll lm lg ld fc2_54]) := hD
            exact mret_z hx hb hr hlocks hS (Nat.le_of_ble_eq_true rfl) (Nat.le_of_ble_eq_true rfl) dX2_readAtom_106 (kd2_49, bg2_50, nx2_51, ft2_52, lz2_53, fc2_54, (0 : Int32)) rfl (by decide) (show (0 ≤ lz2_53.toInt ∧ lz2_53.toInt ≤ 400) ∧ (-1 ≤ ft2_52.toInt) ∧ (0 ≤ nx2_51.toInt ∧ nx2_51.toInt ≤ 400) ∧ (0 ≤ bg2_50.toInt ∧ bg2_50.toInt ≤ 400) ∧ (zKd kd2_49.toInt bg2_50.toInt nx2_51.toInt) ∧ (zTk fb ln.toInt kd2_49.toInt bg2_50.toInt nx2_51.toInt) ∧ (0 = 1 ∧ zAtom fb ln.toInt 4 bg.toInt (.ok bg2_50.toInt) ∧ (-1) = ft2_52 ∨ 0 = 0 ∧ zAtom fb ln.toInt 4 bg.toInt (.bad ft2_52.toInt)) from ⟨(by first | assumption | omega | exact Or.inl (by decide) | exact Or.inr (by omega)), (by first | decide | omega), (by first | assumption | omega | exact Or.inl (by decide) | exact Or.inr (by omega)), (by first | assumption | omega | exact Or.inl (by decide) | exact Or.inr (by omega)), (by first | assumption | omega | exact Or.inl (by decide) | exact Or.inr (by omega)), (by assumption), (Or.inr ⟨rfl, zAt_pl (zor_n hq2_k hq15_k) (.bad1 (zor_n hq31_k hq42_k) hq56_k)⟩)⟩) hP hD
set_option maxRecDepth 100000 in
set_option maxHeartbeats 4000000 in
theorem c_lt_readCondition2F (l : Launch) (g : zG) (lt : Nat) (ta : Nat) (lo : Nat) (ab : Nat) (sz : Int32) (ln : Int32) (kd : Int32) (bg : Int32) (nx : Int32) (fb : Nat → Int32) (lc : Nat) (lz : Int32) (ll : Int32) (lm : Int32) (lg : Int32) (ld : Int32) (fc : Nat → Int32) (b_lz : 0 ≤ lz.toInt ∧ lz.toInt ≤ 400) (hln : 0 ≤ ln.toInt ∧ ln.toInt ≤ 400) (hnx : 0 ≤ nx.toInt ∧ nx.toInt ≤ 400) (hbg : 0 ≤ bg.toInt ∧ bg.toInt ≤ 400) (hkd : zKd kd.toInt bg.toInt nx.toInt) (hTk : zTk fb ln.toInt kd.toInt bg.toInt nx.toInt) : zM' g l yX2_readCondition (Cond.code yX2_readCondition cX2_readCondition 5 (some .boolean) :: zB) ({ frames := 19, cells := 0, slots := 0, locals := 420 } : Room) [.ref lt, .int 2] [bLT g lt ta lo, bTape g ta ab sz ln kd bg nx (-1) fb, bLaw g lo lc lz ll lm lg ld fc] (fun u : Int32 × Int32 × Int32 × Int32 × Int32 × (Nat → Int32) × Int32 => (fun (kd2 : Int32) (bg2 : Int32) (nx2 : Int32) (ft2 : Int32) (lz2 : Int32) (fc2 : Nat → Int32) (q : Int32) => some (.int q)) (u.1) (u.2.1) (u.2.2.1) (u.2.2.2.1) (u.2.2.2.2.1) (u.2.2.2.2.2.1) (u.2.2.2.2.2.2)) (fun u : Int32 × Int32 × Int32 × Int32 × Int32 × (Nat → Int32) × Int32 => (fun (kd2 : Int32) (bg2 : Int32) (nx2 : Int32) (ft2 : Int32) (lz2 : Int32) (fc2 : Nat → Int32) (q : Int32) => (0 ≤ lz2.toInt ∧ lz2.toInt ≤ 400) ∧ (-1 ≤ ft2.toInt) ∧ (0 ≤ nx2.toInt ∧ nx2.toInt ≤ 400) ∧ (0 ≤ bg2.toInt ∧ bg2.toInt ≤ 400) ∧ (zKd kd2.toInt bg2.toInt nx2.toInt) ∧ (zTk fb ln.toInt kd2.toInt bg2.toInt nx2.toInt) ∧ (q = 1 ∧ zCond fb ln.toInt (zAtom fb ln.toInt 4) bg.toInt (.ok bg2.toInt) ∧ (-1) = ft2 ∨ q = 0 ∧ zCond fb ln.toInt (zAtom fb ln.toInt 4) bg.toInt (.bad ft2.toInt))) (u.1) (u.2.1) (u.2.2.1) (u.2.2.2.1) (u.2.2.2.2.1) (u.2.2.2.2.2.1) (u.2.2.2.2.2.2)) (fun u : Int32 × Int32 × Int32 × Int32 × Int32 × (Nat → Int32) × Int32 => (fun (kd2 : Int32) (bg2 : Int32) (nx2 : Int32) (ft2 : Int32) (lz2 : Int32) (fc2 : Nat → Int32) (q : Int32) => [bLT g lt ta lo, bTape g ta ab sz ln kd2 bg2 nx2 ft2 fb, bLaw g lo lc lz2 ll lm lg ld fc2]) (u.1) (u.2.1) (u.2.2.1) (u.2.2.2.1) (u.2.2.2.2.1) (u.2.2.2.2.2.1) (u.2.2.2.2.2.2)) := by
  refine zM'.of (cc := cX2_readCondition) (maxL := 5) (rt := (some .boolean)) (by decide) rfl (Nat.le_of_ble_eq_true rfl) ?_
  intro p e s m args below meth c A ls St hr hlocks hin hK hT hA hP hD hS hl
  obtain ⟨hx, hb, hml, hown, hts⟩ := id St
  have hl : lv_has ls 5 [(0, .ref lt), (1, .int 2)] := hl
  refine lv_iconst (v := (-1)) hx hb dX2_readCondition_0 (by decide) ?_
  refine lv_istore_n (lv' := [(2, .int (-1)), (0, .ref lt), (1, .int 2)]) hx hb dX2_readCondition_1 rfl hl (by decide) rfl (fun ls hl => ?_)
  refine lv_iconst (v := (-1)) hx hb dX2_readCondition_2 (by decide) ?_
  refine lv_istore_n (lv' := [(3, .int (-1)), (2, .int (-1)), (0, .ref lt), (1, .int 2)]) hx hb dX2_readCondition_3 rfl hl (by decide) rfl (fun ls hl => ?_)
  refine lv_iconst (v := 0) hx hb dX2_readCondition_4 (by decide) ?_
  refine lv_istore (lv' := [(4, .int 0), (3, .int (-1)), (2, .int (-1)), (0, .ref lt), (1, .int 2)]) hx hb dX2_readCondition_5 hl (by decide) rfl (fun ls hl => ?_)
  have hl := lv_sub (l' := [(0, .ref lt), (1, .int 2), (2, .int (-1)), (3, .int (-1)), (4, .int 0)]) hl [3, 4, 2, 1, 0] rfl
  have LP7_17 : ∀ (kf : Nat) (x_1 : Int32) (x_2 : Int32) (x_3 : Int32) (x_4 : Int32) (x_5 : Int32) (x_6 : Int32) (x_7 : Int32) (fc_8 : Nat → Int32), (0 ≤ x_3.toInt ∧ x_3.toInt ≤ 400) → (0 ≤ x_5.toInt ∧ x_5.toInt ≤ 400) → (0 ≤ x_6.toInt ∧ x_6.toInt ≤ 400) → (0 ≤ x_7.toInt ∧ x_7.toInt ≤ 400) → (zKd x_4.toInt x_5.toInt x_6.toInt) → (zTk fb ln.toInt x_4.toInt x_5.toInt x_6.toInt) → (x_3.toInt ≤ x_5.toInt) → (∀ r9, zCond fb ln.toInt (zAtom fb ln.toInt 4) x_5.toInt r9 → zCond fb ln.toInt (zAtom fb ln.toInt 4) bg.toInt r9) → ∀ (H : Heap) (locs : List Loc) (ls : Array Slot), ((401 - x_3.toInt).toNat) < kf → va_P g.1 vwCl (List.flatten [bLT g lt ta lo, bTape g ta ab sz ln x_4 x_5 x_6 (-1) fb, bLaw g lo lc x_7 ll lm lg ld fc_8]) H → va_D A (List.flatten [bLT g lt ta lo, bTape g ta ab sz ln x_4 x_5 x_6 (-1) fb, bLaw g lo lc x_7 ll lm lg ld fc_8]) → va_S A s.heap H locs → lv_has ls 5 [(0, .ref lt), (1, .int 2), (2, .int x_1), (3, .int x_2), (4, .int x_3)] → W p l e ({ frames := 19, cells := 0, slots := 0, locals := 420 } : Room) s m args below meth c H locs (0) (0) (zF g (fun u : Int32 × Int32 × Int32 × Int32 × Int32 × (Nat → Int32) × Int32 => (fun (kd2 : Int32) (bg2 : Int32) (nx2 : Int32) (ft2 : Int32) (lz2 : Int32) (fc2 : Nat → Int32) (q : Int32) => some (.int q)) (u.1) (u.2.1) (u.2.2.1) (u.2.2.2.1) (u.2.2.2.2.1) (u.2.2.2.2.2.1) (u.2.2.2.2.2.2)) (fun u : Int32 × Int32 × Int32 × Int32 × Int32 × (Nat → Int32) × Int32 => (fun (kd2 : Int32) (bg2 : Int32) (nx2 : Int32) (ft2 : Int32) (lz2 : Int32) (fc2 : Nat → Int32) (q : Int32) => (0 ≤ lz2.toInt ∧ lz2.toInt ≤ 400) ∧ (-1 ≤ ft2.toInt) ∧ (0 ≤ nx2.toInt ∧ nx2.toInt ≤ 400) ∧ (0 ≤ bg2.toInt ∧ bg2.toInt ≤ 400) ∧ (zKd kd2.toInt bg2.toInt nx2.toInt) ∧ (zTk fb ln.toInt kd2.toInt bg2.toInt nx2.toInt) ∧ (q = 1 ∧ zCond fb ln.toInt (zAtom fb ln.toInt 4) bg.toInt (.ok bg2.toInt) ∧ (-1) = ft2 ∨ q = 0 ∧ zCond fb ln.toInt (zAtom fb ln.toInt 4) bg.toInt (.bad ft2.toInt))) (u.1) (u.2.1) (u.2.2.1) (u.2.2.2.1) (u.2.2.2.2.1) (u.2.2.2.2.2.1) (u.2.2.2.2.2.2)) (fun u : Int32 × Int32 × Int32 × Int32 × Int32 × (Nat → Int32) × Int32 => (fun (kd2 : Int32) (bg2 : Int32) (nx2 : Int32) (ft2 : Int32) (lz2 : Int32) (fc2 : Nat → Int32) (q : Int32) => [bLT g lt ta lo, bTape g ta ab sz ln kd2 bg2 nx2 ft2 fb, bLaw g lo lc lz2 ll lm lg ld fc2]) (u.1) (u.2.1) (u.2.2.1) (u.2.2.2.1) (u.2.2.2.2.1) (u.2.2.2.2.2.1) (u.2.2.2.2.2.2)) ({ frames := 19, cells := 0, slots := 0, locals := 420 } : Room) below args s A) (F0 m 7 ls []) := by
    intro kf
    induction kf with
    | zero => intro x_1 x_2 x_3 x_4 x_5 x_6 x_7 fc_8 i9 i10 i11 i12 i13 i14 i15 i16 H locs ls hk; exact absurd hk (Nat.not_lt_zero _)
    | succ kf ih7_18 =>
      intro x_1 x_2 x_3 x_4 x_5 x_6 x_7 fc_8 i9 i10 i11 i12 i13 i14 i15 i16 H locs ls hk7_18 hP hD hS hl
      refine lv_iload hx hb dX2_readCondition_7 (lv_at hl 4 rfl) ?_
      refine lv_sipush (v := 400) hx hb dX2_readCondition_9 (by decide) ?_
      refine lv_icmp_ge (tgt := 100) hx hb dX2_readCondition_12 (by decide) (fun cb9 => ?_) (fun cb9 => ?_)
      · skip
        have c19 : 400 ≤ x_3.toInt := zle cb9 (by decide) rfl
        have n20 : 400 ≤ x_3.toInt := Int.le_trans (Int.le_refl _) c19
        refine lv_aload_n hx hb dX2_readCondition_100 rfl (lv_at hl 0 rfl) ?_
        refine va_get (D := g.1) (ci := 2) (v := .ref ta) (C := RX2) (T := TX2) (N := 2) hx hb hts izRX2 hown hK hP 0 rfl rfl 0 (by decide) (hts _ k290) (fun x9 h9 => u_same (hts _ k291) x9 h9) rfl dX2_readCondition_101 ?_
        refine mcallV' (g := g) (q0 := 0) (ci := 6) (As := []) (rest := []) St hK hT hA hP hD hS hl.1 [1] [0, 2] rfl rfl rfl (c_t_refuseF l g ta ab sz ln x_4 x_5 x_6 fb ) (cwV 0 hts (zgL (zl4 k303 k279 k280 k277) k269) rfl rfl rfl (by decide +kernel) ⟨Nat.le_of_ble_eq_true rfl, Nat.le_of_ble_eq_true rfl⟩) rfl rfl rfl rfl (Nat.le_of_ble_eq_true rfl) dX2_readCondition_104 ⟨(Nat.le_of_ble_eq_true rfl), (Nat.le_of_ble_eq_true rfl)⟩ (fun _u H locs hq21 hP hD hS => ?_)
        have hP : va_P g.1 vwCl (List.flatten [bLT g lt ta lo, bLaw g lo lc x_7 ll lm lg ld fc_8, bTape g ta ab sz ln x_4 x_5 x_6 x_5 fb]) H := hP
        have hD : va_D A (List.flatten [bLT g lt ta lo, bLaw g lo lc x_7 ll lm lg ld fc_8, bTape g ta ab sz ln x_4 x_5 x_6 x_5 fb]) := hD
        refine W.widen (k := 0) (n := 0) (Nat.le_of_ble_eq_true rfl) (Nat.le_of_ble_eq_true rfl) ?_
        refine W.eq (g2 := F0 m 107 ls [.int 0]) rfl ?_
        have hP : va_P g.1 vwCl (List.flatten [bLT g lt ta lo, bLaw g lo lc x_7 ll lm lg ld fc_8, bTape g ta ab sz ln x_4 x_5 x_6 x_5 fb]) H := hP
        have hD : va_D A (List.flatten [bLT g lt ta lo, bLaw g lo lc x_7 ll lm lg ld fc_8, bTape g ta ab sz ln x_4 x_5 x_6 x_5 fb]) := hD
        obtain ⟨hP, hD⟩ := zord (g := g) (Bs' := [bLT g lt ta lo, bTape g ta ab sz ln x_4 x_5 x_6 x_5 fb, bLaw g lo lc x_7 ll lm lg ld fc_8]) [0, 2, 1] rfl rfl hP hD
        exact mret_z hx hb hr hlocks hS (Nat.le_of_ble_eq_true rfl) (Nat.le_of_ble_eq_true rfl) dX2_readCondition_107 (x_4, x_5, x_6, x_5, x_7, fc_8, (0 : Int32)) rfl (by decide) (show (0 ≤ x_7.toInt ∧ x_7.toInt ≤ 400) ∧ (-1 ≤ x_5.toInt) ∧ (0 ≤ x_6.toInt ∧ x_6.toInt ≤ 400) ∧ (0 ≤ x_5.toInt ∧ x_5.toInt ≤ 400) ∧ (zKd x_4.toInt x_5.toInt x_6.toInt) ∧ (zTk fb ln.toInt x_4.toInt x_5.toInt x_6.toInt) ∧ (0 = 1 ∧ zCond fb ln.toInt (zAtom fb ln.toInt 4) bg.toInt (.ok x_5.toInt) ∧ (-1) = x_5 ∨ 0 = 0 ∧ zCond fb ln.toInt (zAtom fb ln.toInt 4) bg.toInt (.bad x_5.toInt)) from ⟨(by first | assumption | omega | exact Or.inl (by decide) | exact Or.inr (by omega)), (by first | decide | omega), (by first | assumption | omega | exact Or.inl (by decide) | exact Or.inr (by omega)), (by first | assumption | omega | exact Or.inl (by decide) | exact Or.inr (by omega)), (by first | assumption | omega | exact Or.inl (by decide) | exact Or.inr (by omega)), (by assumption), (Or.inr ⟨rfl, i16 _ (.wrong (zAt_e (by omega)))⟩)⟩) hP hD
      · skip
        have c22 : x_3.toInt < 400 := zlti (Int32.not_le.mp cb9) rfl (by decide)
        have n23 : x_3.toInt ≤ 399 := zL1 (b := 400) c22 (Int.le_refl _) (by decide)
        refine lv_aload_n hx hb dX2_readCondition_15 rfl (lv_at hl 0 rfl) ?_
        refine lv_iload_n hx hb dX2_readCondition_16 rfl (lv_at hl 1 rfl) ?_
        have hL2 : (2 : Int32).toInt = 2 := by decide
        refine mcallV' (g := g) (q0 := 0) (ci := 2) (As := [.int 2]) (rest := []) St hK hT hA hP hD hS hl.1 [0, 1, 2] [] rfl rfl rfl (c_lt_readAtom2F l g lt ta lo ab sz ln x_4 x_5 x_6 fb lc x_7 ll lm lg ld fc_8 i12 hln i11 i10 i13 i14) (cwV 1 hts (zgL (zl4 k317 k318 k319 k309) k327) rfl rfl rfl (by decide +kernel) ⟨Nat.le_of_ble_eq_true rfl, Nat.le_of_ble_eq_true rfl⟩) rfl rfl rfl rfl (Nat.le_of_ble_eq_true rfl) dX2_readCondition_17 ⟨(Nat.le_of_ble_eq_true rfl), (Nat.le_of_ble_eq_true rfl)⟩ (fun u_ H locs hq31 hP hD hS => ?_)
        obtain ⟨kd2_24, bg2_25, nx2_26, ft2_27, lz2_28, fc2_29, q_30⟩ := u_
        replace hq31 : (0 ≤ lz2_28.toInt ∧ lz2_28.toInt ≤ 400) ∧ (-1 ≤ ft2_27.toInt) ∧ (0 ≤ nx2_26.toInt ∧ nx2_26.toInt ≤ 400) ∧ (0 ≤ bg2_25.toInt ∧ bg2_25.toInt ≤ 400) ∧ (zKd kd2_24.toInt bg2_25.toInt nx2_26.toInt) ∧ (zTk fb ln.toInt kd2_24.toInt bg2_25.toInt nx2_26.toInt) ∧ (q_30 = 1 ∧ zAtom fb ln.toInt 4 x_5.toInt (.ok bg2_25.toInt) ∧ (-1) = ft2_27 ∨ q_30 = 0 ∧ zAtom fb ln.toInt 4 x_5.toInt (.bad ft2_27.toInt)) := hq31
        have hP : va_P g.1 vwCl (List.flatten [bLT g lt ta lo, bTape g ta ab sz ln kd2_24 bg2_25 nx2_26 ft2_27 fb, bLaw g lo lc lz2_28 ll lm lg ld fc2_29]) H := hP
        have hD : va_D A (List.flatten [bLT g lt ta lo, bTape g ta ab sz ln kd2_24 bg2_25 nx2_26 ft2_27 fb, bLaw g lo lc lz2_28 ll lm lg ld fc2_29]) := hD
        refine W.widen (k := 0) (n := 0) (Nat.le_of_ble_eq_true rfl) (Nat.le_of_ble_eq_true rfl) ?_
        refine W.eq (g2 := F0 m 20 ls [.int q_30]) rfl ?_
        obtain ⟨hq31_0, hq31_1, hq31_2, hq31_3, hq31_4, hq31_5, hq31_6⟩ := hq31
        rcases hq31_6 with ⟨rfl, hq31_k, rfl⟩ | ⟨rfl, hq31_k⟩
        · skip
          refine lv_if_ne (tgt := 25) hx hb dX2_readCondition_20 (by decide) (fun _ => ?_) (fun c32 => absurd c32 (by decide))
          refine lv_aload_n hx hb dX2_readCondition_25 rfl (lv_at hl 0 rfl) ?_
          refine va_get (D := g.1) (ci := 2) (v := .ref lo) (C := RX2) (T := TX2) (N := 2) hx hb hts izRX2 hown hK hP 0 rfl rfl 1 (by decide) (hts _ k210) (fun _ h9 => h9) rfl dX2_readCondition_26 ?_
          refine lv_iload_n hx hb dX2_readCondition_29 rfl (lv_at hl 3 rfl) ?_
          refine mcallV' (g := g) (q0 := 0) (ci := 1) (As := [.int x_2]) (rest := []) St hK hT hA hP hD hS hl.1 [2] [0, 1] rfl rfl rfl (c_l_aim l g lo lc lz2_28 ll lm lg ld fc2_29 x_2 hq31_0) (cwV 1 hts (zgL (zl4 k320 k321 k322 k85) k203) rfl rfl rfl (by decide +kernel) ⟨Nat.le_of_ble_eq_true rfl, Nat.le_of_ble_eq_true rfl⟩) rfl rfl rfl rfl (Nat.le_of_ble_eq_true rfl) dX2_readCondition_30 ⟨(Nat.le_of_ble_eq_true rfl), (Nat.le_of_ble_eq_true rfl)⟩ (fun fc2_33 H locs hq34 hP hD hS => ?_)
          have hP : va_P g.1 vwCl (List.flatten [bLT g lt ta lo, bTape g ta ab sz ln kd2_24 bg2_25 nx2_26 (-1) fb, bLaw g lo lc lz2_28 ll lm lg ld fc2_33]) H := hP
          have hD : va_D A (List.flatten [bLT g lt ta lo, bTape g ta ab sz ln kd2_24 bg2_25 nx2_26 (-1) fb, bLaw g lo lc lz2_28 ll lm lg ld fc2_33]) := hD
          refine W.widen (k := 0) (n := 0) (Nat.le_of_ble_eq_true rfl) (Nat.le_of_ble_eq_true rfl) ?_
          refine W.eq (g2 := F0 m 33 ls []) rfl ?_
          refine lv_iconst (v := (-1)) hx hb dX2_readCondition_33 (by decide) ?_
          refine lv_istore_n (lv' := [(3, .int (-1)), (0, .ref lt), (1, .int 2), (2, .int x_1), (4, .int x_3)]) hx hb dX2_readCondition_34 rfl hl (by decide) rfl (fun ls hl => ?_)
          refine lv_aload_n hx hb dX2_readCondition_35 rfl (lv_at hl 1 rfl) ?_
          refine va_get (D := g.1) (ci := 2) (v := .ref ta) (C := RX2) (T := TX2) (N := 2) hx hb hts izRX2 hown hK hP 0 rfl rfl 0 (by decide) (hts _ k290) (fun x9 h9 => u_same (hts _ k291) x9 h9) rfl dX2_readCondition_36 ?_
          refine va_ldcS (q := g.2 16) hx hb hown (zra3 hT.2.1) dX2_readCondition_39 ?_
          refine mcallV' (g := g) (q0 := 0) (ci := 6) (As := [.ref (g.2 16)]) (rest := []) St hK hT hA hP hD hS hl.1 [1] [0, 2] rfl rfl rfl (c_t_takeWordF l g ta ab sz ln kd2_24 bg2_25 nx2_26 (-1) fb (g.2 16) 3 zqa3 hln hq31_2 hq31_3 hq31_4 hq31_5 rfl zla3 zna3 (zlitB zla3)) (cwV 1 hts (zgL (zl4 k310 k311 k312 k277) k284) rfl rfl rfl (by decide +kernel) ⟨Nat.le_of_ble_eq_true rfl, Nat.le_of_ble_eq_true rfl⟩) rfl rfl rfl rfl (Nat.le_of_ble_eq_true rfl) dX2_readCondition_41 ⟨(Nat.le_of_ble_eq_true rfl), (Nat.le_of_ble_eq_true rfl)⟩ (fun u_ H locs hq39 hP hD hS => ?_)
          obtain ⟨kd2_35, bg2_36, nx2_37, r_38⟩ := u_
          replace hq39 : (0 ≤ nx2_37.toInt ∧ nx2_37.toInt ≤ 400) ∧ (0 ≤ bg2_36.toInt ∧ bg2_36.toInt ≤ 400) ∧ (zKd kd2_35.toInt bg2_36.toInt nx2_37.toInt) ∧ (zTk fb ln.toInt kd2_35.toInt bg2_36.toInt nx2_37.toInt) ∧ (r_38 = 1 ∧ zisW fb ln.toInt bg2_25.toInt zqa3.2.2.2 ∧ zMv fb ln.toInt bg2_25.toInt bg2_36.toInt ∨ r_38 = 0 ∧ ¬ zisW fb ln.toInt bg2_25.toInt zqa3.2.2.2 ∧ kd2_24 = kd2_35 ∧ bg2_25 = bg2_36 ∧ nx2_26 = nx2_37) := hq39
          have hP : va_P g.1 vwCl (List.flatten [bLT g lt ta lo, bLaw g lo lc lz2_28 ll lm lg ld fc2_33, bTape g ta ab sz ln kd2_35 bg2_36 nx2_37 (-1) fb]) H := hP
          have hD : va_D A (List.flatten [bLT g lt ta lo, bLaw g lo lc lz2_28 ll lm lg ld fc2_33, bTape g ta ab sz ln kd2_35 bg2_36 nx2_37 (-1) fb]) := hD
          refine W.widen (k := 0) (n := 0) (Nat.le_of_ble_eq_true rfl) (Nat.le_of_ble_eq_true rfl) ?_
          refine W.eq (g2 := F0 m 44 ls [.int r_38]) rfl ?_
          obtain ⟨hq39_0, hq39_1, hq39_2, hq39_3, hq39_4⟩ := hq39
          rcases hq39_4 with ⟨rfl, hq39_k, hq39_km⟩ | ⟨rfl, hq39_k, rfl, rfl, rfl⟩
          · skip
            refine lv_if_eq (tgt := 61) hx hb dX2_readCondition_44 (by decide) (fun c40 => absurd c40 (by decide)) (fun _ => ?_)
            refine lv_aload_n hx hb dX2_readCondition_47 rfl (lv_at hl 1 rfl) ?_
            refine va_get (D := g.1) (ci := 2) (v := .ref lo) (C := RX2) (T := TX2) (N := 2) hx hb hts izRX2 hown hK hP 0 rfl rfl 1 (by decide) (hts _ k210) (fun _ h9 => h9) rfl dX2_readCondition_48 ?_
            refine lv_bipush (v := 13) hx hb dX2_readCondition_51 (by decide) ?_
            refine lv_iconst (v := 0) hx hb dX2_readCondition_53 (by decide) ?_
            refine mcallV' (g := g) (q0 := 0) (ci := 1) (As := [.int 13, .int 0]) (rest := []) St hK hT hA hP hD hS hl.1 [1] [0, 2] rfl rfl rfl (c_l_put l g lo lc lz2_28 ll lm lg ld fc2_33 13 0 hq31_0) (cwV 2 hts (zgL (zl4 k297 k298 k299 k85) k202) rfl rfl rfl (by decide +kernel) ⟨Nat.le_of_ble_eq_true rfl, Nat.le_of_ble_eq_true rfl⟩) rfl rfl rfl rfl (Nat.le_of_ble_eq_true rfl) dX2_readCondition_54 ⟨(Nat.le_of_ble_eq_true rfl), (Nat.le_of_ble_eq_true rfl)⟩ (fun u_ H locs hq44 hP hD hS => ?_)
            obtain ⟨lz2_41, fc2_42, q_43⟩ := u_
            replace hq44 : (0 ≤ lz2_41.toInt ∧ lz2_41.toInt ≤ 400) := hq44
            have hP : va_P g.1 vwCl (List.flatten [bLT g lt ta lo, bTape g ta ab sz ln kd2_35 bg2_36 nx2_37 (-1) fb, bLaw g lo lc lz2_41 ll lm lg ld fc2_42]) H := hP
            have hD : va_D A (List.flatten [bLT g lt ta lo, bTape g ta ab sz ln kd2_35 bg2_36 nx2_37 (-1) fb, bLaw g lo lc lz2_41 ll lm lg ld fc2_42]) := hD
            refine W.widen (k := 0) (n := 0) (Nat.le_of_ble_eq_true rfl) (Nat.le_of_ble_eq_true rfl) ?_
            refine W.eq (g2 := F0 m 57 ls [.int q_43]) rfl ?_
            refine lv_istore_n (lv' := [(3, .int q_43), (0, .ref lt), (1, .int 2), (2, .int x_1), (4, .int x_3)]) hx hb dX2_readCondition_57 rfl hl (by decide) rfl (fun ls hl => ?_)
            refine lv_goto (tgt := 94) hx hb dX2_readCondition_58 (by decide) ?_
            have w45 : x_5.toInt < bg2_25.toInt := zAtom_gt fb ln.toInt _ _ _ (by omega) hq31_k
            have w46 : bg2_25.toInt < bg2_36.toInt := zMv_lt (f := fb) (n := ln.toInt) (by omega) (zisW_z hq39_k) hq39_km
            have w47 : ∀ r9, zCond fb ln.toInt (zAtom fb ln.toInt 4) bg2_36.toInt r9 → zCond fb ln.toInt (zAtom fb ln.toInt 4) bg.toInt r9 := fun r9 h9 => i16 r9 (zCo_more hq31_k (Or.inl hq39_k) hq39_km h9)
            refine ziinc3 (n' := 1) (a' := 1) (b' := 400) (lv' := fun v9 => [(4, .int v9), (3, .int q_43), (0, .ref lt), (1, .int 2), (2, .int x_1)]) hx hb dX2_readCondition_94 hl (k := 4) rfl (by decide) (fun _ => rfl) (zaddK (i := x_3.toInt) (j := 1) rfl (by decide) i9.1 n23 (Int.le_refl _) (Int.le_refl _) (by decide)) (fun x_48 ls hx_48 hl => ?_)
            refine lv_goto (tgt := 7) hx hb dX2_readCondition_97 (by decide) ?_
            have hl := lv_sub (l' := [(0, .ref lt), (1, .int 2), (2, .int x_1), (3, .int q_43), (4, .int x_48)]) hl [2, 3, 4, 1, 0] rfl
            have hP : va_P g.1 vwCl (List.flatten [bLT g lt ta lo, bTape g ta ab sz ln kd2_35 bg2_36 nx2_37 (-1) fb, bLaw g lo lc lz2_41 ll lm lg ld fc2_42]) H := hP
            have hD : va_D A (List.flatten [bLT g lt ta lo, bTape g ta ab sz ln kd2_35 bg2_36 nx2_37 (-1) fb, bLaw g lo lc lz2_41 ll lm lg ld fc2_42]) := hD
            exact ih7_18 x_1 q_43 x_48 kd2_35 bg2_36 nx2_37 lz2_41 fc2_42 ⟨(Int.le_trans (by decide) hx_48.2.1), hx_48.2.2⟩ ⟨hq39_1.1, hq39_1.2⟩ ⟨hq39_0.1, hq39_0.2⟩ ⟨hq44.1, hq44.2⟩ hq39_2 hq39_3 (by first | omega | assumption | decide) w47 H _ ls (zmK hx_48.1 (by decide) n23 (by decide) hk7_18)  hP hD hS (lv_sub hl [0, 1, 2, 3, 4] rfl)
          · skip
            refine lv_if_eq (tgt := 61) hx hb dX2_readCondition_44 (by decide) (fun _ => ?_) (fun c49 => absurd (by decide) c49)
            refine lv_aload_n hx hb dX2_readCondition_61 rfl (lv_at hl 1 rfl) ?_
            refine va_get (D := g.1) (ci := 2) (v := .ref lo) (C := RX2) (T := TX2) (N := 2) hx hb hts izRX2 hown hK hP 0 rfl rfl 1 (by decide) (hts _ k210) (fun _ h9 => h9) rfl dX2_readCondition_62 ?_
            refine lv_iload_n hx hb dX2_readCondition_65 rfl (lv_at hl 3 rfl) ?_
            refine mcallV' (g := g) (q0 := 0) (ci := 1) (As := [.int x_1]) (rest := []) St hK hT hA hP hD hS hl.1 [1] [0, 2] rfl rfl rfl (c_l_aim l g lo lc lz2_28 ll lm lg ld fc2_33 x_1 hq31_0) (cwV 1 hts (zgL (zl4 k320 k321 k322 k85) k203) rfl rfl rfl (by decide +kernel) ⟨Nat.le_of_ble_eq_true rfl, Nat.le_of_ble_eq_true rfl⟩) rfl rfl rfl rfl (Nat.le_of_ble_eq_true rfl) dX2_readCondition_66 ⟨(Nat.le_of_ble_eq_true rfl), (Nat.le_of_ble_eq_true rfl)⟩ (fun fc2_50 H locs hq51 hP hD hS => ?_)
            have hP : va_P g.1 vwCl (List.flatten [bLT g lt ta lo, bTape g ta ab sz ln kd2_24 bg2_25 nx2_26 (-1) fb, bLaw g lo lc lz2_28 ll lm lg ld fc2_50]) H := hP
            have hD : va_D A (List.flatten [bLT g lt ta lo, bTape g ta ab sz ln kd2_24 bg2_25 nx2_26 (-1) fb, bLaw g lo lc lz2_28 ll lm lg ld fc2_50]) := hD
            refine W.widen (k := 0) (n := 0) (Nat.le_of_ble_eq_true rfl) (Nat.le_of_ble_eq_true rfl) ?_
            refine W.eq (g2 := F0 m 69 ls []) rfl ?_
            refine lv_aload_n hx hb dX2_readCondition_69 rfl (lv_at hl 1 rfl) ?_
            refine va_get (D := g.1) (ci := 2) (v := .ref ta) (C := RX2) (T := TX2) (N := 2) hx hb hts izRX2 hown hK hP 0 rfl rfl 0 (by decide) (hts _ k290) (fun x9 h9 => u_same (hts _ k291) x9 h9) rfl dX2_readCondition_70 ?_
            refine va_ldcS (q := g.2 18) hx hb hown (zra4 hT.2.1) dX2_readCondition_73 ?_
            refine mcallV' (g := g) (q0 := 0) (ci := 6) (As := [.ref (g.2 18)]) (rest := []) St hK hT hA hP hD hS hl.1 [1] [0, 2] rfl rfl rfl (c_t_takeWordF l g ta ab sz ln kd2_24 bg2_25 nx2_26 (-1) fb (g.2 18) 4 zqa4 hln hq31_2 hq31_3 hq31_4 hq31_5 rfl zla4 zna4 (zlitB zla4)) (cwV 1 hts (zgL (zl4 k310 k311 k312 k277) k284) rfl rfl rfl (by decide +kernel) ⟨Nat.le_of_ble_eq_true rfl, Nat.le_of_ble_eq_true rfl⟩) rfl rfl rfl rfl (Nat.le_of_ble_eq_true rfl) dX2_readCondition_75 ⟨(Nat.le_of_ble_eq_true rfl), (Nat.le_of_ble_eq_true rfl)⟩ (fun u_ H locs hq56 hP hD hS => ?_)
            obtain ⟨kd2_52, bg2_53, nx2_54, r_55⟩ := u_
            replace hq56 : (0 ≤ nx2_54.toInt ∧ nx2_54.toInt ≤ 400) ∧ (0 ≤ bg2_53.toInt ∧ bg2_53.toInt ≤ 400) ∧ (zKd kd2_52.toInt bg2_53.toInt nx2_54.toInt) ∧ (zTk fb ln.toInt kd2_52.toInt bg2_53.toInt nx2_54.toInt) ∧ (r_55 = 1 ∧ zisW fb ln.toInt bg2_25.toInt zqa4.2.2.2 ∧ zMv fb ln.toInt bg2_25.toInt bg2_53.toInt ∨ r_55 = 0 ∧ ¬ zisW fb ln.toInt bg2_25.toInt zqa4.2.2.2 ∧ kd2_24 = kd2_52 ∧ bg2_25 = bg2_53 ∧ nx2_26 = nx2_54) := hq56
            have hP : va_P g.1 vwCl (List.flatten [bLT g lt ta lo, bLaw g lo lc lz2_28 ll lm lg ld fc2_50, bTape g ta ab sz ln kd2_52 bg2_53 nx2_54 (-1) fb]) H := hP
            have hD : va_D A (List.flatten [bLT g lt ta lo, bLaw g lo lc lz2_28 ll lm lg ld fc2_50, bTape g ta ab sz ln kd2_52 bg2_53 nx2_54 (-1) fb]) := hD
            refine W.widen (k := 0) (n := 0) (Nat.le_of_ble_eq_true rfl) (Nat.le_of_ble_eq_true rfl) ?_
            refine W.eq (g2 := F0 m 78 ls [.int r_55]) rfl ?_
            obtain ⟨hq56_0, hq56_1, hq56_2, hq56_3, hq56_4⟩ := hq56
            rcases hq56_4 with ⟨rfl, hq56_k, hq56_km⟩ | ⟨rfl, hq56_k, rfl, rfl, rfl⟩
            · skip
              refine lv_if_ne (tgt := 83) hx hb dX2_readCondition_78 (by decide) (fun _ => ?_) (fun c57 => absurd c57 (by decide))
              refine lv_aload_n hx hb dX2_readCondition_83 rfl (lv_at hl 1 rfl) ?_
              refine va_get (D := g.1) (ci := 2) (v := .ref lo) (C := RX2) (T := TX2) (N := 2) hx hb hts izRX2 hown hK hP 0 rfl rfl 1 (by decide) (hts _ k210) (fun _ h9 => h9) rfl dX2_readCondition_84 ?_
              refine lv_bipush (v := 14) hx hb dX2_readCondition_87 (by decide) ?_
              refine lv_iconst (v := 0) hx hb dX2_readCondition_89 (by decide) ?_
              refine mcallV' (g := g) (q0 := 0) (ci := 1) (As := [.int 14, .int 0]) (rest := []) St hK hT hA hP hD hS hl.1 [1] [0, 2] rfl rfl rfl (c_l_put l g lo lc lz2_28 ll lm lg ld fc2_50 14 0 hq31_0) (cwV 2 hts (zgL (zl4 k297 k298 k299 k85) k202) rfl rfl rfl (by decide +kernel) ⟨Nat.le_of_ble_eq_true rfl, Nat.le_of_ble_eq_true rfl⟩) rfl rfl rfl rfl (Nat.le_of_ble_eq_true rfl) dX2_readCondition_90 ⟨(Nat.le_of_ble_eq_true rfl), (Nat.le_of_ble_eq_true rfl)⟩ (fun u_ H locs hq61 hP hD hS => ?_)
              obtain ⟨lz2_58, fc2_59, q_60⟩ := u_
              replace hq61 : (0 ≤ lz2_58.toInt ∧ lz2_58.toInt ≤ 400) := hq61
              have hP : va_P g.1 vwCl (List.flatten [bLT g lt ta lo, bTape g ta ab sz ln kd2_52 bg2_53 nx2_54 (-1) fb, bLaw g lo lc lz2_58 ll lm lg ld fc2_59]) H := hP
              have hD : va_D A (List.flatten [bLT g lt ta lo, bTape g ta ab sz ln kd2_52 bg2_53 nx2_54 (-1) fb, bLaw g lo lc lz2_58 ll lm lg ld fc2_59]) := hD
              refine W.widen (k := 0) (n := 0) (Nat.le_of_ble_eq_true rfl) (Nat.le_of_ble_eq_true rfl) ?_
              refine W.eq (g2 := F0 m 93 ls [.int q_60]) rfl ?_
              refine lv_istore_n (lv' := [(2, .int q_60), (3, .int (-1)), (0, .ref lt), (1, .int 2), (4, .int x_3)]) hx hb dX2_readCondition_93 rfl hl (by decide) rfl (fun ls hl => ?_)
              have w62 : x_5.toInt < bg2_25.toInt := zAtom_gt fb ln.toInt _ _ _ (by omega) hq31_k
              have w63 : bg2_25.toInt < bg2_53.toInt := zMv_lt (f := fb) (n := ln.toInt) (by omega) (zisW_z hq56_k) hq56_km
              have w64 : ∀ r9, zCond fb ln.toInt (zAtom fb ln.toInt 4) bg2_53.toInt r9 → zCond fb ln.toInt (zAtom fb ln.toInt 4) bg.toInt r9 := fun r9 h9 => i16 r9 (zCo_more hq31_k (Or.inr hq56_k) hq56_km h9)
              refine ziinc3 (n' := 1) (a' := 1) (b' := 400) (lv' := fun v9 => [(4, .int v9), (2, .int q_60), (3, .int (-1)), (0, .ref lt), (1, .int 2)]) hx hb dX2_readCondition_94 hl (k := 4) rfl (by decide) (fun _ => rfl) (zaddK (i := x_3.toInt) (j := 1) rfl (by decide) i9.1 n23 (Int.le_refl _) (Int.le_refl _) (by decide)) (fun x_65 ls hx_65 hl => ?_)
              refine lv_goto (tgt := 7) hx hb dX2_readCondition_97 (by decide) ?_
              have hl := lv_sub (l' := [(0, .ref lt), (1, .int 2), (2, .int q_60), (3, .int (-1)), (4, .int x_65)]) hl [3, 4, 1, 2, 0] rfl
              have hLn1 : ((-1) : Int32).toInt = (-1) := by decide
              have hP : va_P g.1 vwCl (List.flatten [bLT g lt ta lo, bTape g ta ab sz ln kd2_52 bg2_53 nx2_54 (-1) fb, bLaw g lo lc lz2_58 ll lm lg ld fc2_59]) H := hP
              have hD : va_D A (List.flatten [bLT g lt ta lo, bTape g ta ab sz ln kd2_52 bg2_53 nx2_54 (-1) fb, bLaw g lo lc lz2_58 ll lm lg ld fc2_59]) := hD
              exact ih7_18 q_60 (-1) x_65 kd2_52 bg2_53 nx2_54 lz2_58 fc2_59 ⟨(Int.le_trans (by decide) hx_65.2.1), hx_65.2.2⟩ ⟨hq56_1.1, hq56_1.2⟩ ⟨hq56_0.1, hq56_0.2⟩ ⟨hq61.1, hq61.2⟩ hq56_2 hq56_3 (by first | omega | assumption | decide) w64 H _ ls (zmK hx_65.1 (by decide) n23 (by decide) hk7_18)  hP hD hS (lv_sub hl [0, 1, 2, 3, 4] rfl)
            · skip
              refine lv_if_ne (tgt := 83) hx hb dX2_readCondition_78 (by decide) (fun c66 => absurd (by decide) c66) (fun _ => ?_)
              refine lv_iconst (v := 1) hx hb dX2_readCondition_81 (by decide) ?_
              have hP : va_P g.1 vwCl (List.flatten [bLT g lt ta lo, bLaw g lo lc lz2_28 ll lm lg ld fc2_50, bTape g ta ab sz ln kd2_24 bg2_25 nx2_26 (-1) fb]) H := hP
              have hD : va_D A (List.flatten [bLT g lt ta lo, bLaw g lo lc lz2_28 ll lm lg ld fc2_50, bTape g ta ab sz ln kd2_24 bg2_25 nx2_26 (-1) fb]) := hD
              obtain ⟨hP, hD⟩ := zord (g := g) (Bs' := [bLT g lt ta lo, bTape g ta ab sz ln kd2_24 bg2_25 nx2_26 (-1) fb, bLaw g lo lc lz2_28 ll lm lg ld fc2_50]) [0, 2, 1] rfl rfl hP hD
              exact mret_z hx hb hr hlocks hS (Nat.le_of_ble_eq_true rfl) (Nat.le_of_ble_eq_true rfl) dX2_readCondition_82 (kd2_24, bg2_25, nx2_26, -1, lz2_28, fc2_50, (1 : Int32)) rfl (by decide) (show (0 ≤ lz2_28.toInt ∧ lz2_28.toInt ≤ 400) ∧ (-1 ≤ ((-1) : Int32).toInt) ∧ (0 ≤ nx2_26.toInt ∧ nx2_26.toInt ≤ 400) ∧ (0 ≤ bg2_25.toInt ∧ bg2_25.toInt ≤ 400) ∧ (zKd kd2_24.toInt bg2_25.toInt nx2_26.toInt) ∧ (zTk fb ln.toInt kd2_24.toInt bg2_25.toInt nx2_26.toInt) ∧ (1 = 1 ∧ zCond fb ln.toInt (zAtom fb ln.toInt 4) bg.toInt (.ok bg2_25.toInt) ∧ (-1) = (-1) ∨ 1 = 0 ∧ zCond fb ln.toInt (zAtom fb ln.toInt 4) bg.toInt (.bad ((-1) : Int32).toInt)) from ⟨(by first | assumption | omega | exact Or.inl (by decide) | exact Or.inr (by omega)), (by decide), (by first | assumption | omega | exact Or.inl (by decide) | exact Or.inr (by omega)), (by first | assumption | omega | exact Or.inl (by decide) | exact Or.inr (by omega)), (by first | assumption | omega | exact Or.inl (by decide) | exact Or.inr (by omega)), (by assumption), (Or.inl ⟨rfl, i16 _ (.one hq31_k (zor_n hq39_k hq56_k)), rfl⟩)⟩) hP hD
        · skip
          refine lv_if_ne (tgt := 25) hx hb dX2_readCondition_20 (by decide) (fun c67 => absurd (by decide) c67) (fun _ => ?_)
          refine lv_iconst (v := 0) hx hb dX2_readCondition_23 (by decide) ?_
          have hP : va_P g.1 vwCl (List.flatten [bLT g lt ta lo, bTape g ta ab sz ln kd2_24 bg2_25 nx2_26 ft2_27 fb, bLaw g lo lc lz2_28 ll lm lg ld fc2_29]) H := hP
          have hD : va_D A (List.flatten [bLT g lt ta lo, bTape g ta ab sz ln kd2_24 bg2_25 nx2_26 ft2_27 fb, bLaw g lo lc lz2_28 ll lm lg ld fc2_29]) := hD
          exact mret_z hx hb hr hlocks hS (Nat.le_of_ble_eq_true rfl) (Nat.le_of_ble_eq_true rfl) dX2_readCondition_24 (kd2_24, bg2_25, nx2_26, ft2_27, lz2_28, fc2_29, (0 : Int32)) rfl (by decide) (show (0 ≤ lz2_28.toInt ∧ lz2_28.toInt ≤ 400) ∧ (-1 ≤ ft2_27.toInt) ∧ (0 ≤ nx2_26.toInt ∧ nx2_26.toInt ≤ 400) ∧ (0 ≤ bg2_25.toInt ∧ bg2_25.toInt ≤ 400) ∧ (zKd kd2_24.toInt bg2_25.toInt nx2_26.toInt) ∧ (zTk fb ln.toInt kd2_24.toInt bg2_25.toInt nx2_26.toInt) ∧ (0 = 1 ∧ zCond fb ln.toInt (zAtom fb ln.toInt 4) bg.toInt (.ok bg2_25.toInt) ∧ (-1) = ft2_27 ∨ 0 = 0 ∧ zCond fb ln.toInt (zAtom fb ln.toInt 4) bg.toInt (.bad ft2_27.toInt)) from ⟨(by first | assumption | omega | exact Or.inl (by decide) | exact Or.inr (by omega)), (by first | decide | omega), (by first | assumption | omega | exact Or.inl (by decide) | exact Or.inr (by omega)), (by first | assumption | omega | exact Or.inl (by decide) | exact Or.inr (by omega)), (by first | assumption | omega | exact Or.inl (by decide) | exact Or.inr (by omega)), (by assumption), (Or.inr ⟨rfl, i16 _ (.wrong hq31_k)⟩)⟩) hP hD
  have hLn1 : ((-1) : Int32).toInt = (-1) := by decide
  have hL0 : (0 : Int32).toInt = 0 := by decide
  have hP : va_P g.1 vwCl (List.flatten [bLT g lt ta lo, bTape g ta ab sz ln kd bg nx (-1) fb, bLaw g lo lc lz ll lm lg ld fc]) s.heap := hP
  have hD : va_D A (List.flatten [bLT g lt ta lo, bTape g ta ab sz ln kd bg nx (-1) fb, bLaw g lo lc lz ll lm lg ld fc]) := hD
  exact LP7_17 _ (-1) (-1) 0 kd bg nx lz fc (by decide) ⟨hbg.1, hbg.2⟩ ⟨hnx.1, hnx.2⟩ ⟨b_lz.1, b_lz.2⟩ hkd hTk (by first | omega | assumption | decide) (fun _ h9 => h9) s.heap _ ls (Nat.lt_succ_self _)  hP hD hS (lv_sub hl [0, 1, 2, 3, 4] rfl)
set_option maxRecDepth 100000 in
set_option maxHeartbeats 4000000 in
theorem c_lt_readDeeper2F (l : Launch) (g : zG) (lt : Nat) (ta : Nat) (lo : Nat) (ab : Nat) (sz : Int32) (ln : Int32) (kd : Int32) (bg : Int32) (nx : Int32) (fb : Nat → Int32) (lc : Nat) (lz : Int32) (ll : Int32) (lm : Int32) (lg : Int32) (ld : Int32) (fc : Nat → Int32) (b_lz : 0 ≤ lz.toInt ∧ lz.toInt ≤ 400) (hln : 0 ≤ ln.toInt ∧ ln.toInt ≤ 400) (hnx : 0 ≤ nx.toInt ∧ nx.toInt ≤ 400) (hbg : 0 ≤ bg.toInt ∧ bg.toInt ≤ 400) (hkd : zKd kd.toInt bg.toInt nx.toInt) (hTk : zTk fb ln.toInt kd.toInt bg.toInt nx.toInt) : zM' g l yX2_readDeeper (Cond.code yX2_readDeeper cX2_readDeeper 2 (some .boolean) :: zB) ({ frames := 20, cells := 0, slots := 0, locals := 444 } : Room) [.ref lt, .int 2] [bLT g lt ta lo, bTape g ta ab sz ln kd bg nx (-1) fb, bLaw g lo lc lz ll lm lg ld fc] (fun u : Int32 × Int32 × Int32 × Int32 × Int32 × (Nat → Int32) × Int32 => (fun (kd2 : Int32) (bg2 : Int32) (nx2 : Int32) (ft2 : Int32) (lz2 : Int32) (fc2 : Nat → Int32) (q : Int32) => some (.int q)) (u.1) (u.2.1) (u.2.2.1) (u.2.2.2.1) (u.2.2.2.2.1) (u.2.2.2.2.2.1) (u.2.2.2.2.2.2)) (fun u : Int32 × Int32 × Int32 × Int32 × Int32 × (Nat → Int32) × Int32 => (fun (kd2 : Int32) (bg2 : Int32) (nx2 : Int32) (ft2 : Int32) (lz2 : Int32) (fc2 : Nat → Int32) (q : Int32) => (0 ≤ lz2.toInt ∧ lz2.toInt ≤ 400) ∧ (-1 ≤ ft2.toInt) ∧ (0 ≤ nx2.toInt ∧ nx2.toInt ≤ 400) ∧ (0 ≤ bg2.toInt ∧ bg2.toInt ≤ 400) ∧ (zKd kd2.toInt bg2.toInt nx2.toInt) ∧ (zTk fb ln.toInt kd2.toInt bg2.toInt nx2.toInt) ∧ (q = 1 ∧ zDpr fb ln.toInt 4 bg.toInt (.ok bg2.toInt) ∧ (-1) = ft2 ∨ q = 0 ∧ zDpr fb ln.toInt 4 bg.toInt (.bad ft2.toInt))) (u.1) (u.2.1) (u.2.2.1) (u.2.2.2.1) (u.2.2.2.2.1) (u.2.2.2.2.2.1) (u.2.2.2.2.2.2)) (fun u : Int32 × Int32 × Int32 × Int32 × Int32 × (Nat → Int32) × Int32 => (fun (kd2 : Int32) (bg2 : Int32) (nx2 : Int32) (ft2 : Int32) (lz2 : Int32) (fc2 : Nat → Int32) (q : Int32) => [bLT g lt ta lo, bTape g ta ab sz ln kd2 bg2 nx2 ft2 fb, bLaw g lo lc lz2 ll lm lg ld fc2]) (u.1) (u.2.1) (u.2.2.1) (u.2.2.2.1) (u.2.2.2.2.1) (u.2.2.2.2.2.1) (u.2.2.2.2.2.2)) := by
  refine zM'.of (cc := cX2_readDeeper) (maxL := 2) (rt := (some .boolean)) (by decide) rfl (Nat.le_of_ble_eq_true rfl) ?_
  intro p e s m args below meth c A ls St hr hlocks hin hK hT hA hP hD hS hl
  obtain ⟨hx, hb, hml, hown, hts⟩ := id St
  have hl : lv_has ls 2 [(0, .ref lt), (1, .int 2)] := hl
  refine lv_aload_n hx hb dX2_readDeeper_0 rfl (lv_at hl 0 rfl) ?_
  refine va_get (D := g.1) (ci := 2) (v := .ref ta) (C := RX2) (T := TX2) (N := 2) hx hb hts izRX2 hown hK hP 0 rfl rfl 0 (by decide) (hts _ k290) (fun x9 h9 => u_same (hts _ k291) x9 h9) rfl dX2_readDeeper_1 ?_
  refine lv_bipush (v := 40) hx hb dX2_readDeeper_4 (by decide) ?_
  have hL40 : (40 : Int32).toInt = 40 := by decide
  refine mcallV' (g := g) (q0 := 0) (ci := 6) (As := [.int 40]) (rest := []) St hK hT hA hP hD hS hl.1 [1] [0, 2] rfl rfl rfl (c_t_takeSignF l g ta ab sz ln kd bg nx (-1) fb 40 hln hnx hbg hkd hTk) (cwV 1 hts (zgL (zl4 k300 k301 k302 k277) k286) rfl rfl rfl (by decide +kernel) ⟨Nat.le_of_ble_eq_true rfl, Nat.le_of_ble_eq_true rfl⟩) rfl rfl rfl rfl (Nat.le_of_ble_eq_true rfl) dX2_readDeeper_6 ⟨(Nat.le_of_ble_eq_true rfl), (Nat.le_of_ble_eq_true rfl)⟩ (fun u_ H locs hq5 hP hD hS => ?_)
  obtain ⟨kd2_1, bg2_2, nx2_3, q_4⟩ := u_
  replace hq5 : (0 ≤ nx2_3.toInt ∧ nx2_3.toInt ≤ 400) ∧ (0 ≤ bg2_2.toInt ∧ bg2_2.toInt ≤ 400) ∧ (zKd kd2_1.toInt bg2_2.toInt nx2_3.toInt) ∧ (zTk fb ln.toInt kd2_1.toInt bg2_2.toInt nx2_3.toInt) ∧ (q_4 = 1 ∧ zisS fb ln.toInt bg.toInt (40 : Int32).toInt ∧ zMv fb ln.toInt bg.toInt bg2_2.toInt ∨ q_4 = 0 ∧ ¬ zisS fb ln.toInt bg.toInt (40 : Int32).toInt ∧ kd = kd2_1 ∧ bg = bg2_2 ∧ nx = nx2_3) := hq5
  have hP : va_P g.1 vwCl (List.flatten [bLT g lt ta lo, bLaw g lo lc lz ll lm lg ld fc, bTape g ta ab sz ln kd2_1 bg2_2 nx2_3 (-1) fb]) H := hP
  have hD : va_D A (List.flatten [bLT g lt ta lo, bLaw g lo lc lz ll lm lg ld fc, bTape g ta ab sz ln kd2_1 bg2_2 nx2_3 (-1) fb]) := hD
  refine W.widen (k := 0) (n := 0) (Nat.le_of_ble_eq_true rfl) (Nat.le_of_ble_eq_true rfl) ?_
  refine W.eq (g2 := F0 m 9 ls [.int q_4]) rfl ?_
  obtain ⟨hq5_0, hq5_1, hq5_2, hq5_3, hq5_4⟩ := hq5
  rcases hq5_4 with ⟨rfl, hq5_k, hq5_km⟩ | ⟨rfl, hq5_k, rfl, rfl, rfl⟩
  · skip
    refine lv_if_eq (tgt := 48) hx hb dX2_readDeeper_9 (by decide) (fun c6 => absurd c6 (by decide)) (fun _ => ?_)
    refine lv_aload_n hx hb dX2_readDeeper_12 rfl (lv_at hl 0 rfl) ?_
    refine lv_iload_n hx hb dX2_readDeeper_13 rfl (lv_at hl 1 rfl) ?_
    have hL2 : (2 : Int32).toInt = 2 := by decide
    refine mcallV' (g := g) (q0 := 0) (ci := 2) (As := [.int 2]) (rest := []) St hK hT hA hP hD hS hl.1 [0, 2, 1] [] rfl rfl rfl (c_lt_readCondition2F l g lt ta lo ab sz ln kd2_1 bg2_2 nx2_3 fb lc lz ll lm lg ld fc b_lz hln hq5_0 hq5_1 hq5_2 hq5_3) (cwV 1 hts (zgL (zl4 k324 k325 k326 k309) k316) rfl rfl rfl (by decide +kernel) ⟨Nat.le_of_ble_eq_true rfl, Nat.le_of_ble_eq_true rfl⟩) rfl rfl rfl rfl (Nat.le_of_ble_eq_true rfl) dX2_readDeeper_14 ⟨(Nat.le_of_ble_eq_true rfl), (Nat.le_of_ble_eq_true rfl)⟩ (fun u_ H locs hq14 hP hD hS => ?_)
    obtain ⟨kd2_7, bg2_8, nx2_9, ft2_10, lz2_11, fc2_12, q_13⟩ := u_
    replace hq14 : (0 ≤ lz2_11.toInt ∧ lz2_11.toInt ≤ 400) ∧ (-1 ≤ ft2_10.toInt) ∧ (0 ≤ nx2_9.toInt ∧ nx2_9.toInt ≤ 400) ∧ (0 ≤ bg2_8.toInt ∧ bg2_8.toInt ≤ 400) ∧ (zKd kd2_7.toInt bg2_8.toInt nx2_9.toInt) ∧ (zTk fb ln.toInt kd2_7.toInt bg2_8.toInt nx2_9.toInt) ∧ (q_13 = 1 ∧ zCond fb ln.toInt (zAtom fb ln.toInt 4) bg2_2.toInt (.ok bg2_8.toInt) ∧ (-1) = ft2_10 ∨ q_13 = 0 ∧ zCond fb ln.toInt (zAtom fb ln.toInt 4) bg2_2.toInt (.bad ft2_10.toInt)) := hq14
    have hP : va_P g.1 vwCl (List.flatten [bLT g lt ta lo, bTape g ta ab sz ln kd2_7 bg2_8 nx2_9 ft2_10 fb, bLaw g lo lc lz2_11 ll lm lg ld fc2_12]) H := hP
    have hD : va_D A (List.flatten [bLT g lt ta lo, bTape g ta ab sz ln kd2_7 bg2_8 nx2_9 ft2_10 fb, bLaw g lo lc lz2_11 ll lm lg ld fc2_12]) := hD
    refine W.widen (k := 0) (n := 0) (Nat.le_of_ble_eq_true rfl) (Nat.le_of_ble_eq_true rfl) ?_
    refine W.eq (g2 := F0 m 17 ls [.int q_13]) rfl ?_
    obtain ⟨hq14_0, hq14_1, hq14_2, hq14_3, hq14_4, hq14_5, hq14_6⟩ := hq14
    rcases hq14_6 with ⟨rfl, hq14_k, rfl⟩ | ⟨rfl, hq14_k⟩
    · skip
      refine lv_if_eq (tgt := 46) hx hb dX2_readDeeper_17 (by decide) (fun c15 => absurd c15 (by decide)) (fun _ => ?_)
      refine lv_aload_n hx hb dX2_readDeeper_20 rfl (lv_at hl 0 rfl) ?_
      refine va_get (D := g.1) (ci := 2) (v := .ref ta) (C := RX2) (T := TX2) (N := 2) hx hb hts izRX2 hown hK hP 0 rfl rfl 0 (by decide) (hts _ k290) (fun x9 h9 => u_same (hts _ k291) x9 h9) rfl dX2_readDeeper_21 ?_
      refine lv_bipush (v := 41) hx hb dX2_readDeeper_24 (by decide) ?_
      have hL41 : (41 : Int32).toInt = 41 := by decide
      refine mcallV' (g := g) (q0 := 0) (ci := 6) (As := [.int 41]) (rest := []) St hK hT hA hP hD hS hl.1 [1] [0, 2] rfl rfl rfl (c_t_takeSignF l g ta ab sz ln kd2_7 bg2_8 nx2_9 (-1) fb 41 hln hq14_2 hq14_3 hq14_4 hq14_5) (cwV 1 hts (zgL (zl4 k300 k301 k302 k277) k286) rfl rfl rfl (by decide +kernel) ⟨Nat.le_of_ble_eq_true rfl, Nat.le_of_ble_eq_true rfl⟩) rfl rfl rfl rfl (Nat.le_of_ble_eq_true rfl) dX2_readDeeper_26 ⟨(Nat.le_of_ble_eq_true rfl), (Nat.le_of_ble_eq_true rfl)⟩ (fun u_ H locs hq20 hP hD hS => ?_)
      obtain ⟨kd2_16, bg2_17, nx2_18, q_19⟩ := u_
      replace hq20 : (0 ≤ nx2_18.toInt ∧ nx2_18.toInt ≤ 400) ∧ (0 ≤ bg2_17.toInt ∧ bg2_17.toInt ≤ 400) ∧ (zKd kd2_16.toInt bg2_17.toInt nx2_18.toInt) ∧ (zTk fb ln.toInt kd2_16.toInt bg2_17.toInt nx2_18.toInt) ∧ (q_19 = 1 ∧ zisS fb ln.toInt bg2_8.toInt (41 : Int32).toInt ∧ zMv fb ln.toInt bg2_8.toInt bg2_17.toInt ∨ q_19 = 0 ∧ ¬ zisS fb ln.toInt bg2_8.toInt (41 : Int32).toInt ∧ kd2_7 = kd2_16 ∧ bg2_8 = bg2_17 ∧ nx2_9 = nx2_18) := hq20
      have hP : va_P g.1 vwCl (List.flatten [bLT g lt ta lo, bLaw g lo lc lz2_11 ll lm lg ld fc2_12, bTape g ta ab sz ln kd2_16 bg2_17 nx2_18 (-1) fb]) H := hP
      have hD : va_D A (List.flatten [bLT g lt ta lo, bLaw g lo lc lz2_11 ll lm lg ld fc2_12, bTape g ta ab sz ln kd2_16 bg2_17 nx2_18 (-1) fb]) := hD
      refine W.widen (k := 0) (n := 0) (Nat.le_of_ble_eq_true rfl) (Nat.le_of_ble_eq_true rfl) ?_
      refine W.eq (g2 := F0 m 29 ls [.int q_19]) rfl ?_
      obtain ⟨hq20_0, hq20_1, hq20_2, hq20_3, hq20_4⟩ := hq20
      rcases hq20_4 with ⟨rfl, hq20_k, hq20_km⟩ | ⟨rfl, hq20_k, rfl, rfl, rfl⟩
      · skip
        refine lv_if_ne (tgt := 42) hx hb dX2_readDeeper_29 (by decide) (fun _ => ?_) (fun c21 => absurd c21 (by decide))
        refine lv_iconst (v := 1) hx hb dX2_readDeeper_42 (by decide) ?_
        refine lv_goto (tgt := 47) hx hb dX2_readDeeper_43 (by decide) ?_
        have hP : va_P g.1 vwCl (List.flatten [bLT g lt ta lo, bLaw g lo lc lz2_11 ll lm lg ld fc2_12, bTape g ta ab sz ln kd2_16 bg2_17 nx2_18 (-1) fb]) H := hP
        have hD : va_D A (List.flatten [bLT g lt ta lo, bLaw g lo lc lz2_11 ll lm lg ld fc2_12, bTape g ta ab sz ln kd2_16 bg2_17 nx2_18 (-1) fb]) := hD
        obtain ⟨hP, hD⟩ := zord (g := g) (Bs' := [bLT g lt ta lo, bTape g ta ab sz ln kd2_16 bg2_17 nx2_18 (-1) fb, bLaw g lo lc lz2_11 ll lm lg ld fc2_12]) [0, 2, 1] rfl rfl hP hD
        exact mret_z hx hb hr hlocks hS (Nat.le_of_ble_eq_true rfl) (Nat.le_of_ble_eq_true rfl) dX2_readDeeper_47 (kd2_16, bg2_17, nx2_18, -1, lz2_11, fc2_12, (1 : Int32)) rfl (by decide) (show (0 ≤ lz2_11.toInt ∧ lz2_11.toInt ≤ 400) ∧ (-1 ≤ ((-1) : Int32).toInt) ∧ (0 ≤ nx2_18.toInt ∧ nx2_18.toInt ≤ 400) ∧ (0 ≤ bg2_17.toInt ∧ bg2_17.toInt ≤ 400) ∧ (zKd kd2_16.toInt bg2_17.toInt nx2_18.toInt) ∧ (zTk fb ln.toInt kd2_16.toInt bg2_17.toInt nx2_18.toInt) ∧ (1 = 1 ∧ zDpr fb ln.toInt 4 bg.toInt (.ok bg2_17.toInt) ∧ (-1) = (-1) ∨ 1 = 0 ∧ zDpr fb ln.toInt 4 bg.toInt (.bad ((-1) : Int32).toInt)) from ⟨(by first | assumption | omega | exact Or.inl (by decide) | exact Or.inr (by omega)), (by decide), (by first | assumption | omega | exact Or.inl (by decide) | exact Or.inr (by omega)), (by first | assumption | omega | exact Or.inl (by decide) | exact Or.inr (by omega)), (by first | assumption | omega | exact Or.inl (by decide) | exact Or.inr (by omega)), (by assumption), (Or.inl ⟨rfl, zDp_p hq5_k hq5_km (zPar_shut hq14_k hq20_k hq20_km), rfl⟩)⟩) hP hD
      · skip
        refine lv_if_ne (tgt := 42) hx hb dX2_readDeeper_29 (by decide) (fun c22 => absurd (by decide) c22) (fun _ => ?_)
        refine lv_aload_n hx hb dX2_readDeeper_32 rfl (lv_at hl 0 rfl) ?_
        refine va_get (D := g.1) (ci := 2) (v := .ref ta) (C := RX2) (T := TX2) (N := 2) hx hb hts izRX2 hown hK hP 0 rfl rfl 0 (by decide) (hts _ k290) (fun x9 h9 => u_same (hts _ k291) x9 h9) rfl dX2_readDeeper_33 ?_
        refine mcallV' (g := g) (q0 := 0) (ci := 6) (As := []) (rest := []) St hK hT hA hP hD hS hl.1 [2] [0, 1] rfl rfl rfl (c_t_refuseF l g ta ab sz ln kd2_7 bg2_8 nx2_9 fb ) (cwV 0 hts (zgL (zl4 k303 k279 k280 k277) k269) rfl rfl rfl (by decide +kernel) ⟨Nat.le_of_ble_eq_true rfl, Nat.le_of_ble_eq_true rfl⟩) rfl rfl rfl rfl (Nat.le_of_ble_eq_true rfl) dX2_readDeeper_36 ⟨(Nat.le_of_ble_eq_true rfl), (Nat.le_of_ble_eq_true rfl)⟩ (fun _u H locs hq23 hP hD hS => ?_)
        have hP : va_P g.1 vwCl (List.flatten [bLT g lt ta lo, bLaw g lo lc lz2_11 ll lm lg ld fc2_12, bTape g ta ab sz ln kd2_7 bg2_8 nx2_9 bg2_8 fb]) H := hP
        have hD : va_D A (List.flatten [bLT g lt ta lo, bLaw g lo lc lz2_11 ll lm lg ld fc2_12, bTape g ta ab sz ln kd2_7 bg2_8 nx2_9 bg2_8 fb]) := hD
        refine W.widen (k := 0) (n := 0) (Nat.le_of_ble_eq_true rfl) (Nat.le_of_ble_eq_true rfl) ?_
        refine W.eq (g2 := F0 m 39 ls [.int 0]) rfl ?_
        refine lv_if_eq (tgt := 46) hx hb dX2_readDeeper_39 (by decide) (fun _ => ?_) (fun c24 => absurd (by decide) c24)
        refine lv_iconst (v := 0) hx hb dX2_readDeeper_46 (by decide) ?_
        have hP : va_P g.1 vwCl (List.flatten [bLT g lt ta lo, bLaw g lo lc lz2_11 ll lm lg ld fc2_12, bTape g ta ab sz ln kd2_7 bg2_8 nx2_9 bg2_8 fb]) H := hP
        have hD : va_D A (List.flatten [bLT g lt ta lo, bLaw g lo lc lz2_11 ll lm lg ld fc2_12, bTape g ta ab sz ln kd2_7 bg2_8 nx2_9 bg2_8 fb]) := hD
        obtain ⟨hP, hD⟩ := zord (g := g) (Bs' := [bLT g lt ta lo, bTape g ta ab sz ln kd2_7 bg2_8 nx2_9 bg2_8 fb, bLaw g lo lc lz2_11 ll lm lg ld fc2_12]) [0, 2, 1] rfl rfl hP hD
        exact mret_z hx hb hr hlocks hS (Nat.le_of_ble_eq_true rfl) (Nat.le_of_ble_eq_true rfl) dX2_readDeeper_47 (kd2_7, bg2_8, nx2_9, bg2_8, lz2_11, fc2_12, (0 : Int32)) rfl (by decide) (show (0 ≤ lz2_11.toInt ∧ lz2_11.toInt ≤ 400) ∧ (-1 ≤ bg2_8.toInt) ∧ (0 ≤ nx2_9.toInt ∧ nx2_9.toInt ≤ 400) ∧ (0 ≤ bg2_8.toInt ∧ bg2_8.toInt ≤ 400) ∧ (zKd kd2_7.toInt bg2_8.toInt nx2_9.toInt) ∧ (zTk fb ln.toInt kd2_7.toInt bg2_8.toInt nx2_9.toInt) ∧ (0 = 1 ∧ zDpr fb ln.toInt 4 bg.toInt (.ok bg2_8.toInt) ∧ (-1) = bg2_8 ∨ 0 = 0 ∧ zDpr fb ln.toInt 4 bg.toInt (.bad bg2_8.toInt)) from ⟨(by first | assumption | omega | exact Or.inl (by decide) | exact Or.inr (by omega)), (by first | decide | omega), (by first | assumption | omega | exact Or.inl (by decide) | exact Or.inr (by omega)), (by first | assumption | omega | exact Or.inl (by decide) | exact Or.inr (by omega)), (by first | assumption | omega | exact Or.inl (by decide) | exact Or.inr (by omega)), (by assumption), (Or.inr ⟨rfl, zDp_p hq5_k hq5_km (.open_ hq14_k hq20_k)⟩)⟩) hP hD
    · skip
      refine lv_if_eq (tgt := 46) hx hb dX2_readDeeper_17 (by decide) (fun _ => ?_) (fun c25 => absurd (by decide) c25)
      refine lv_iconst (v := 0) hx hb dX2_readDeeper_46 (by decide) ?_
      have hP : va_P g.1 vwCl (List.flatten [bLT g lt ta lo, bTape g ta ab sz ln kd2_7 bg2_8 nx2_9 ft2_10 fb, bLaw g lo lc lz2_11 ll lm lg ld fc2_12]) H := hP
      have hD : va_D A (List.flatten [bLT g lt ta lo, bTape g ta ab sz ln kd2_7 bg2_8 nx2_9 ft2_10 fb, bLaw g lo lc lz2_11 ll lm lg ld fc2_12]) := hD
      exact mret_z hx hb hr hlocks hS (Nat.le_of_ble_eq_true rfl) (Nat.le_of_ble_eq_true rfl) dX2_readDeeper_47 (kd2_7, bg2_8, nx2_9, ft2_10, lz2_11, fc2_12, (0 : Int32)) rfl (by decide) (show (0 ≤ lz2_11.toInt ∧ lz2_11.toInt ≤ 400) ∧ (-1 ≤ ft2_10.toInt) ∧ (0 ≤ nx2_9.toInt ∧ nx2_9.toInt ≤ 400) ∧ (0 ≤ bg2_8.toInt ∧ bg2_8.toInt ≤ 400) ∧ (zKd kd2_7.toInt bg2_8.toInt nx2_9.toInt) ∧ (zTk fb ln.toInt kd2_7.toInt bg2_8.toInt nx2_9.toInt) ∧ (0 = 1 ∧ zDpr fb ln.toInt 4 bg.toInt (.ok bg2_8.toInt) ∧ (-1) = ft2_10 ∨ 0 = 0 ∧ zDpr fb ln.toInt 4 bg.toInt (.bad ft2_10.toInt)) from ⟨(by first | assumption | omega | exact Or.inl (by decide) | exact Or.inr (by omega)), (by first | decide | omega), (by first | assumption | omega | exact Or.inl (by decide) | exact Or.inr (by omega)), (by first | assumption | omega | exact Or.inl (by decide) | exact Or.inr (by omega)), (by first | assumption | omega | exact Or.inl (by decide) | exact Or.inr (by omega)), (by assumption), (Or.inr ⟨rfl, zDp_p hq5_k hq5_km (.wrong hq14_k)⟩)⟩) hP hD
  · skip
    refine lv_if_eq (tgt := 48) hx hb dX2_readDeeper_9 (by decide) (fun _ => ?_) (fun c26 => absurd (by decide) c26)
    refine lv_aload_n hx hb dX2_readDeeper_48 rfl (lv_at hl 0 rfl) ?_
    refine va_get (D := g.1) (ci := 2) (v := .ref ta) (C := RX2) (T := TX2) (N := 2) hx hb hts izRX2 hown hK hP 0 rfl rfl 0 (by decide) (hts _ k290) (fun x9 h9 => u_same (hts _ k291) x9 h9) rfl dX2_readDeeper_49 ?_
    refine mcallV' (g := g) (q0 := 0) (ci := 6) (As := []) (rest := []) St hK hT hA hP hD hS hl.1 [2] [0, 1] rfl rfl rfl (c_t_stepF l g ta ab sz ln kd bg nx (-1) fb hln hnx) (cwV 0 hts (zgL (zl4 k296 k275 k276 k277) k271) rfl rfl rfl (by decide +kernel) ⟨Nat.le_of_ble_eq_true rfl, Nat.le_of_ble_eq_true rfl⟩) rfl rfl rfl rfl (Nat.le_of_ble_eq_true rfl) dX2_readDeeper_52 ⟨(Nat.le_of_ble_eq_true rfl), (Nat.le_of_ble_eq_true rfl)⟩ (fun u_ H locs hq30 hP hD hS => ?_)
    obtain ⟨kd2_27, bg2_28, nx2_29⟩ := u_
    replace hq30 : (0 ≤ nx2_29.toInt ∧ nx2_29.toInt ≤ 400) ∧ (0 ≤ bg2_28.toInt ∧ bg2_28.toInt ≤ 400) ∧ (zKd kd2_27.toInt bg2_28.toInt nx2_29.toInt) ∧ (zSk fb ln.toInt nx.toInt bg2_28.toInt) ∧ (zTk fb ln.toInt kd2_27.toInt bg2_28.toInt nx2_29.toInt) := hq30
    have hP : va_P g.1 vwCl (List.flatten [bLT g lt ta lo, bLaw g lo lc lz ll lm lg ld fc, bTape g ta ab sz ln kd2_27 bg2_28 nx2_29 (-1) fb]) H := hP
    have hD : va_D A (List.flatten [bLT g lt ta lo, bLaw g lo lc lz ll lm lg ld fc, bTape g ta ab sz ln kd2_27 bg2_28 nx2_29 (-1) fb]) := hD
    refine W.widen (k := 0) (n := 0) (Nat.le_of_ble_eq_true rfl) (Nat.le_of_ble_eq_true rfl) ?_
    refine W.eq (g2 := F0 m 55 ls []) rfl ?_
    obtain ⟨hq30_0, hq30_1, hq30_2, hq30_3, hq30_4⟩ := hq30
    refine lv_aload_n hx hb dX2_readDeeper_55 rfl (lv_at hl 0 rfl) ?_
    refine lv_iload_n hx hb dX2_readDeeper_56 rfl (lv_at hl 1 rfl) ?_
    have hL2 : (2 : Int32).toInt = 2 := by decide
    refine mcallV' (g := g) (q0 := 0) (ci := 2) (As := [.int 2]) (rest := []) St hK hT hA hP hD hS hl.1 [0, 2, 1] [] rfl rfl rfl (c_lt_readAtom2F l g lt ta lo ab sz ln kd2_27 bg2_28 nx2_29 fb lc lz ll lm lg ld fc b_lz hln hq30_0 hq30_1 hq30_2 hq30_4) (cwV 1 hts (zgL (zl4 k317 k318 k319 k309) k327) rfl rfl rfl (by decide +kernel) ⟨Nat.le_of_ble_eq_true rfl, Nat.le_of_ble_eq_true rfl⟩) rfl rfl rfl rfl (Nat.le_of_ble_eq_true rfl) dX2_readDeeper_57 ⟨(Nat.le_of_ble_eq_true rfl), (Nat.le_of_ble_eq_true rfl)⟩ (fun u_ H locs hq38 hP hD hS => ?_)
    obtain ⟨kd2_31, bg2_32, nx2_33, ft2_34, lz2_35, fc2_36, q_37⟩ := u_
    replace hq38 : (0 ≤ lz2_35.toInt ∧ lz2_35.toInt ≤ 400) ∧ (-1 ≤ ft2_34.toInt) ∧ (0 ≤ nx2_33.toInt ∧ nx2_33.toInt ≤ 400) ∧ (0 ≤ bg2_32.toInt ∧ bg2_32.toInt ≤ 400) ∧ (zKd kd2_31.toInt bg2_32.toInt nx2_33.toInt) ∧ (zTk fb ln.toInt kd2_31.toInt bg2_32.toInt nx2_33.toInt) ∧ (q_37 = 1 ∧ zAtom fb ln.toInt 4 bg2_28.toInt (.ok bg2_32.toInt) ∧ (-1) = ft2_34 ∨ q_37 = 0 ∧ zAtom fb ln.toInt 4 bg2_28.toInt (.bad ft2_34.toInt)) := hq38
    have hP : va_P g.1 vwCl (List.flatten [bLT g lt ta lo, bTape g ta ab sz ln kd2_31 bg2_32 nx2_33 ft2_34 fb, bLaw g lo lc lz2_35 ll lm lg ld fc2_36]) H := hP
    have hD : va_D A (List.flatten [bLT g lt ta lo, bTape g ta ab sz ln kd2_31 bg2_32 nx2_33 ft2_34 fb, bLaw g lo lc lz2_35 ll lm lg ld fc2_36]) := hD
    refine W.widen (k := 0) (n := 0) (Nat.le_of_ble_eq_true rfl) (Nat.le_of_ble_eq_true rfl) ?_
    refine W.eq (g2 := F0 m 60 ls [.int q_37]) rfl ?_
    obtain ⟨hq38_0, hq38_1, hq38_2, hq38_3, hq38_4, hq38_5, hq38_6⟩ := hq38
    rcases hq38_6 with ⟨rfl, hq38_k, rfl⟩ | ⟨rfl, hq38_k⟩
    · skip
      refine lv_if_ne (tgt := 65) hx hb dX2_readDeeper_60 (by decide) (fun _ => ?_) (fun c39 => absurd c39 (by decide))
      refine lv_aload_n hx hb dX2_readDeeper_65 rfl (lv_at hl 0 rfl) ?_
      refine va_get (D := g.1) (ci := 2) (v := .ref lo) (C := RX2) (T := TX2) (N := 2) hx hb hts izRX2 hown hK hP 0 rfl rfl 1 (by decide) (hts _ k210) (fun _ h9 => h9) rfl dX2_readDeeper_66 ?_
      refine lv_bipush (v := 12) hx hb dX2_readDeeper_69 (by decide) ?_
      refine lv_iconst (v := 0) hx hb dX2_readDeeper_71 (by decide) ?_
      refine mcallV' (g := g) (q0 := 0) (ci := 1) (As := [.int 12, .int 0]) (rest := []) St hK hT hA hP hD hS hl.1 [2] [0, 1] rfl rfl rfl (c_l_put l g lo lc lz2_35 ll lm lg ld fc2_36 12 0 hq38_0) (cwV 2 hts (zgL (zl4 k297 k298 k299 k85) k202) rfl rfl rfl (by decide +kernel) ⟨Nat.le_of_ble_eq_true rfl, Nat.le_of_ble_eq_true rfl⟩) rfl rfl rfl rfl (Nat.le_of_ble_eq_true rfl) dX2_readDeeper_72 ⟨(Nat.le_of_ble_eq_true rfl), (Nat.le_of_ble_eq_true rfl)⟩ (fun u_ H locs hq43 hP hD hS => ?_)
      obtain ⟨lz2_40, fc2_41, q_42⟩ := u_
      replace hq43 : (0 ≤ lz2_40.toInt ∧ lz2_40.toInt ≤ 400) := hq43
      have hP : va_P g.1 vwCl (List.flatten [bLT g lt ta lo, bTape g ta ab sz ln kd2_31 bg2_32 nx2_33 (-1) fb, bLaw g lo lc lz2_40 ll lm lg ld fc2_41]) H := hP
      have hD : va_D A (List.flatten [bLT g lt ta lo, bTape g ta ab sz ln kd2_31 bg2_32 nx2_33 (-1) fb, bLaw g lo lc lz2_40 ll lm lg ld fc2_41]) := hD
      refine W.widen (k := 0) (n := 0) (Nat.le_of_ble_eq_true rfl) (Nat.le_of_ble_eq_true rfl) ?_
      refine W.eq (g2 := F0 m 75 ls [.int q_42]) rfl ?_
      refine lv_pop hx hb dX2_readDeeper_75 rfl ?_
      refine lv_iconst (v := 1) hx hb dX2_readDeeper_76 (by decide) ?_
      have hP : va_P g.1 vwCl (List.flatten [bLT g lt ta lo, bTape g ta ab sz ln kd2_31 bg2_32 nx2_33 (-1) fb, bLaw g lo lc lz2_40 ll lm lg ld fc2_41]) H := hP
      have hD : va_D A (List.flatten [bLT g lt ta lo, bTape g ta ab sz ln kd2_31 bg2_32 nx2_33 (-1) fb, bLaw g lo lc lz2_40 ll lm lg ld fc2_41]) := hD
      exact mret_z hx hb hr hlocks hS (Nat.le_of_ble_eq_true rfl) (Nat.le_of_ble_eq_true rfl) dX2_readDeeper_77 (kd2_31, bg2_32, nx2_33, -1, lz2_40, fc2_41, (1 : Int32)) rfl (by decide) (show (0 ≤ lz2_40.toInt ∧ lz2_40.toInt ≤ 400) ∧ (-1 ≤ ((-1) : Int32).toInt) ∧ (0 ≤ nx2_33.toInt ∧ nx2_33.toInt ≤ 400) ∧ (0 ≤ bg2_32.toInt ∧ bg2_32.toInt ≤ 400) ∧ (zKd kd2_31.toInt bg2_32.toInt nx2_33.toInt) ∧ (zTk fb ln.toInt kd2_31.toInt bg2_32.toInt nx2_33.toInt) ∧ (1 = 1 ∧ zDpr fb ln.toInt 4 bg.toInt (.ok bg2_32.toInt) ∧ (-1) = (-1) ∨ 1 = 0 ∧ zDpr fb ln.toInt 4 bg.toInt (.bad ((-1) : Int32).toInt)) from ⟨(by first | assumption | omega | exact Or.inl (by decide) | exact Or.inr (by omega)), (by decide), (by first | assumption | omega | exact Or.inl (by decide) | exact Or.inr (by omega)), (by first | assumption | omega | exact Or.inl (by decide) | exact Or.inr (by omega)), (by first | assumption | omega | exact Or.inl (by decide) | exact Or.inr (by omega)), (by assumption), (Or.inl ⟨rfl, zDp_n hq5_k (zMv_mk hTk hq30_3) hq38_k, rfl⟩)⟩) hP hD
    · skip
      refine lv_if_ne (tgt := 65) hx hb dX2_readDeeper_60 (by decide) (fun c44 => absurd (by decide) c44) (fun _ => ?_)
      refine lv_iconst (v := 0) hx hb dX2_readDeeper_63 (by decide) ?_
      have hP : va_P g.1 vwCl (List.flatten [bLT g lt ta lo, bTape g ta ab sz ln kd2_31 bg2_32 nx2_33 ft2_34 fb, bLaw g lo lc lz2_35 ll lm lg ld fc2_36]) H := hP
      have hD : va_D A (List.flatten [bLT g lt ta lo, bTape g ta ab sz ln kd2_31 bg2_32 nx2_33 ft2_34 fb, bLaw g lo lc lz2_35 ll lm lg ld fc2_36]) := hD
      exact mret_z hx hb hr hlocks hS (Nat.le_of_ble_eq_true rfl) (Nat.le_of_ble_eq_true rfl) dX2_readDeeper_64 (kd2_31, bg2_32, nx2_33, ft2_34, lz2_35, fc2_36, (0 : Int32)) rfl (by decide) (show (0 ≤ lz2_35.toInt ∧ lz2_35.toInt ≤ 400) ∧ (-1 ≤ ft2_34.toInt) ∧ (0 ≤ nx2_33.toInt ∧ nx2_33.toInt ≤ 400) ∧ (0 ≤ bg2_32.toInt ∧ bg2_32.toInt ≤ 400) ∧ (zKd kd2_31.toInt bg2_32.toInt nx2_33.toInt) ∧ (zTk fb ln.toInt kd2_31.toInt bg2_32.toInt nx2_33.toInt) ∧ (0 = 1 ∧ zDpr fb ln.toInt 4 bg.toInt (.ok bg2_32.toInt) ∧ (-1) = ft2_34 ∨ 0 = 0 ∧ zDpr fb ln.toInt 4 bg.toInt (.bad ft2_34.toInt)) from ⟨(by first | assumption | omega | exact Or.inl (by decide) | exact Or.inr (by omega)), (by first | decide | omega), (by first | assumption | omega | exact Or.inl (by decide) | exact Or.inr (by omega)), (by first | assumption | omega | exact Or.inl (by decide) | exact Or.inr (by omega)), (by first | assumption | omega | exact Or.inl (by decide) | exact Or.inr (by omega)), (by assumption), (Or.inr ⟨rfl, zDp_n hq5_k (zMv_mk hTk hq30_3) hq38_k⟩)⟩) hP hD
