set_option maxRecDepth 100000 in
set_option maxHeartbeats 4000000 in
theorem c_lt_readAtom6 (l : Launch) (g : zG) (lt : Nat) (ta : Nat) (lo : Nat) (ab : Nat) (sz : Int32) (ln : Int32) (kd : Int32) (bg : Int32) (nx : Int32) (ft : Int32) (fb : Nat → Int32) (lc : Nat) (lz : Int32) (ll : Int32) (lm : Int32) (lg : Int32) (ld : Int32) (fc : Nat → Int32) (b_lz : 0 ≤ lz.toInt ∧ lz.toInt ≤ 400) (hln : 0 ≤ ln.toInt ∧ ln.toInt ≤ 400) (hnx : 0 ≤ nx.toInt ∧ nx.toInt ≤ 400) (hbg : 0 ≤ bg.toInt ∧ bg.toInt ≤ 400) (hkd : zKd kd.toInt bg.toInt nx.toInt) (hft : -1 ≤ ft.toInt) : zM' g l yX2_readAtom (Cond.code yX2_readAtom cX2_readAtom 3 (some .boolean) :: zB) ({ frames := 6, cells := 0, slots := 0, locals := 130 } : Room) [.ref lt, .int 6] [bLT g lt ta lo, bTape g ta ab sz ln kd bg nx ft fb, bLaw g lo lc lz ll lm lg ld fc] (fun u : Int32 × Int32 × Int32 × Int32 × Int32 × (Nat → Int32) × Int32 => (fun (kd2 : Int32) (bg2 : Int32) (nx2 : Int32) (ft2 : Int32) (lz2 : Int32) (fc2 : Nat → Int32) (q : Int32) => some (.int q)) (u.1) (u.2.1) (u.2.2.1) (u.2.2.2.1) (u.2.2.2.2.1) (u.2.2.2.2.2.1) (u.2.2.2.2.2.2)) (fun u : Int32 × Int32 × Int32 × Int32 × Int32 × (Nat → Int32) × Int32 => (fun (kd2 : Int32) (bg2 : Int32) (nx2 : Int32) (ft2 : Int32) (lz2 : Int32) (fc2 : Nat → Int32) (q : Int32) => (0 ≤ lz2.toInt ∧ lz2.toInt ≤ 400) ∧ (-1 ≤ ft2.toInt) ∧ (0 ≤ nx2.toInt ∧ nx2.toInt ≤ 400) ∧ (0 ≤ bg2.toInt ∧ bg2.toInt ≤ 400) ∧ (zKd kd2.toInt bg2.toInt nx2.toInt) ∧ (q = 0 ∨ q = 1)) (u.1) (u.2.1) (u.2.2.1) (u.2.2.2.1) (u.2.2.2.2.1) (u.2.2.2.2.2.1) (u.2.2.2.2.2.2)) (fun u : Int32 × Int32 × Int32 × Int32 × Int32 × (Nat → Int32) × Int32 => (fun (kd2 : Int32) (bg2 : Int32) (nx2 : Int32) (ft2 : Int32) (lz2 : Int32) (fc2 : Nat → Int32) (q : Int32) => [bLT g lt ta lo, bTape g ta ab sz ln kd2 bg2 nx2 ft2 fb, bLaw g lo lc lz2 ll lm lg ld fc2]) (u.1) (u.2.1) (u.2.2.1) (u.2.2.2.1) (u.2.2.2.2.1) (u.2.2.2.2.2.1) (u.2.2.2.2.2.2)) := by
  refine zM'.of (cc := cX2_readAtom) (maxL := 3) (rt := (some .boolean)) (by decide) rfl (Nat.le_of_ble_eq_true rfl) ?_
  intro p e s m args below meth c A ls St hr hlocks hin hK hT hA hP hD hS hl
  obtain ⟨hx, hb, hml, hown, hts⟩ := id St
  have hl : lv_has ls 3 [(0, .ref lt), (1, .int 6)] := hl
  refine lv_aload_n hx hb dX2_readAtom_0 rfl (lv_at hl 0 rfl) ?_
  refine va_get (D := g.1) (ci := 2) (v := .ref ta) (C := RX2) (T := TX2) (N := 2) hx hb hts izRX2 hown hK hP 0 rfl rfl 0 (by decide) (hts _ k290) (fun x9 h9 => u_same (hts _ k291) x9 h9) rfl dX2_readAtom_1 ?_
  refine va_ldcS (q := g.2 20) hx hb hown (zra5 hT.2.1) dX2_readAtom_4 ?_
  refine mcallV' (g := g) (q0 := 0) (ci := 6) (As := [.ref (g.2 20)]) (rest := []) St hK hT hA hP hD hS hl.1 [1] [0, 2] rfl rfl rfl (c_t_isWord l g ta ab sz ln kd bg nx ft fb (g.2 20) 5 zqa5 hln hnx hbg hkd hft rfl zla5 zna5) (cwV 1 hts (zgL (zl4 k292 k282 k283 k277) k268) rfl rfl rfl (by decide +kernel) ⟨Nat.le_of_ble_eq_true rfl, Nat.le_of_ble_eq_true rfl⟩) rfl rfl rfl rfl (Nat.le_of_ble_eq_true rfl) dX2_readAtom_6 ⟨(Nat.le_of_ble_eq_true rfl), (Nat.le_of_ble_eq_true rfl)⟩ (fun r_1 H locs hq2 hP hD hS => ?_)
  replace hq2 : (r_1 = 0 ∨ r_1 = 1) := hq2
  have hP : va_P g.1 vwCl (List.flatten [bLT g lt ta lo, bLaw g lo lc lz ll lm lg ld fc, bTape g ta ab sz ln kd bg nx ft fb]) H := hP
  have hD : va_D A (List.flatten [bLT g lt ta lo, bLaw g lo lc lz ll lm lg ld fc, bTape g ta ab sz ln kd bg nx ft fb]) := hD
  refine W.widen (k := 0) (n := 0) (Nat.le_of_ble_eq_true rfl) (Nat.le_of_ble_eq_true rfl) ?_
  refine W.eq (g2 := F0 m 9 ls [.int r_1]) rfl ?_
  rcases hq2 with rfl | rfl
  · skip
    refine lv_if_ne (tgt := 24) hx hb dX2_readAtom_9 (by decide) (fun c3 => absurd (by decide) c3) (fun _ => ?_)
    refine lv_aload_n hx hb dX2_readAtom_12 rfl (lv_at hl 0 rfl) ?_
    refine va_get (D := g.1) (ci := 2) (v := .ref ta) (C := RX2) (T := TX2) (N := 2) hx hb hts izRX2 hown hK hP 0 rfl rfl 0 (by decide) (hts _ k290) (fun x9 h9 => u_same (hts _ k291) x9 h9) rfl dX2_readAtom_13 ?_
    refine lv_bipush (v := 40) hx hb dX2_readAtom_16 (by decide) ?_
    refine mcallV' (g := g) (q0 := 0) (ci := 6) (As := [.int 40]) (rest := []) St hK hT hA hP hD hS hl.1 [2] [0, 1] rfl rfl rfl (c_t_isSign l g ta ab sz ln kd bg nx ft fb 40 hln hnx hbg hkd hft) (cwV 1 hts (zgL (zl4 k305 k288 k289 k277) k285) rfl rfl rfl (by decide +kernel) ⟨Nat.le_of_ble_eq_true rfl, Nat.le_of_ble_eq_true rfl⟩) rfl rfl rfl rfl (Nat.le_of_ble_eq_true rfl) dX2_readAtom_18 ⟨(Nat.le_of_ble_eq_true rfl), (Nat.le_of_ble_eq_true rfl)⟩ (fun q_4 H locs hq5 hP hD hS => ?_)
    replace hq5 : (q_4 = 0 ∨ q_4 = 1) := hq5
    have hP : va_P g.1 vwCl (List.flatten [bLT g lt ta lo, bLaw g lo lc lz ll lm lg ld fc, bTape g ta ab sz ln kd bg nx ft fb]) H := hP
    have hD : va_D A (List.flatten [bLT g lt ta lo, bLaw g lo lc lz ll lm lg ld fc, bTape g ta ab sz ln kd bg nx ft fb]) := hD
    refine W.widen (k := 0) (n := 0) (Nat.le_of_ble_eq_true rfl) (Nat.le_of_ble_eq_true rfl) ?_
    refine W.eq (g2 := F0 m 21 ls [.int q_4]) rfl ?_
    rcases hq5 with rfl | rfl
    · skip
      refine lv_if_eq (tgt := 48) hx hb dX2_readAtom_21 (by decide) (fun _ => ?_) (fun c6 => absurd (by decide) c6)
      refine lv_aload_n hx hb dX2_readAtom_48 rfl (lv_at hl 0 rfl) ?_
      refine va_get (D := g.1) (ci := 2) (v := .ref ta) (C := RX2) (T := TX2) (N := 2) hx hb hts izRX2 hown hK hP 0 rfl rfl 0 (by decide) (hts _ k290) (fun x9 h9 => u_same (hts _ k291) x9 h9) rfl dX2_readAtom_49 ?_
      refine va_ldcS (q := g.2 22) hx hb hown (zra6 hT.2.1) dX2_readAtom_52 ?_
      refine mcallV' (g := g) (q0 := 0) (ci := 6) (As := [.ref (g.2 22)]) (rest := []) St hK hT hA hP hD hS hl.1 [2] [0, 1] rfl rfl rfl (c_t_takeWord l g ta ab sz ln kd bg nx ft fb (g.2 22) 6 zqa6 hln hnx hbg hkd hft rfl zla6 zna6) (cwV 1 hts (zgL (zl4 k310 k311 k312 k277) k284) rfl rfl rfl (by decide +kernel) ⟨Nat.le_of_ble_eq_true rfl, Nat.le_of_ble_eq_true rfl⟩) rfl rfl rfl rfl (Nat.le_of_ble_eq_true rfl) dX2_readAtom_54 ⟨(Nat.le_of_ble_eq_true rfl), (Nat.le_of_ble_eq_true rfl)⟩ (fun u_ H locs hq11 hP hD hS => ?_)
      obtain ⟨kd2_7, bg2_8, nx2_9, r_10⟩ := u_
      replace hq11 : (0 ≤ nx2_9.toInt ∧ nx2_9.toInt ≤ 400) ∧ (0 ≤ bg2_8.toInt ∧ bg2_8.toInt ≤ 400) ∧ (zKd kd2_7.toInt bg2_8.toInt nx2_9.toInt) ∧ (r_10 = 0 ∨ r_10 = 1) := hq11
      have hP : va_P g.1 vwCl (List.flatten [bLT g lt ta lo, bLaw g lo lc lz ll lm lg ld fc, bTape g ta ab sz ln kd2_7 bg2_8 nx2_9 ft fb]) H := hP
      have hD : va_D A (List.flatten [bLT g lt ta lo, bLaw g lo lc lz ll lm lg ld fc, bTape g ta ab sz ln kd2_7 bg2_8 nx2_9 ft fb]) := hD
      refine W.widen (k := 0) (n := 0) (Nat.le_of_ble_eq_true rfl) (Nat.le_of_ble_eq_true rfl) ?_
      refine W.eq (g2 := F0 m 57 ls [.int r_10]) rfl ?_
      obtain ⟨hq11_0, hq11_1, hq11_2, hq11_3⟩ := hq11
      rcases hq11_3 with rfl | rfl
      · skip
        refine lv_if_eq (tgt := 73) hx hb dX2_readAtom_57 (by decide) (fun _ => ?_) (fun c12 => absurd (by decide) c12)
        refine lv_aload_n hx hb dX2_readAtom_73 rfl (lv_at hl 0 rfl) ?_
        refine va_get (D := g.1) (ci := 2) (v := .ref ta) (C := RX2) (T := TX2) (N := 2) hx hb hts izRX2 hown hK hP 0 rfl rfl 0 (by decide) (hts _ k290) (fun x9 h9 => u_same (hts _ k291) x9 h9) rfl dX2_readAtom_74 ?_
        refine va_ldcS (q := g.2 24) hx hb hown (zra7 hT.2.1) dX2_readAtom_77 ?_
        refine mcallV' (g := g) (q0 := 0) (ci := 6) (As := [.ref (g.2 24)]) (rest := []) St hK hT hA hP hD hS hl.1 [2] [0, 1] rfl rfl rfl (c_t_takeWord l g ta ab sz ln kd2_7 bg2_8 nx2_9 ft fb (g.2 24) 7 zqa7 hln hq11_0 hq11_1 hq11_2 hft rfl zla7 zna7) (cwV 1 hts (zgL (zl4 k310 k311 k312 k277) k284) rfl rfl rfl (by decide +kernel) ⟨Nat.le_of_ble_eq_true rfl, Nat.le_of_ble_eq_true rfl⟩) rfl rfl rfl rfl (Nat.le_of_ble_eq_true rfl) dX2_readAtom_79 ⟨(Nat.le_of_ble_eq_true rfl), (Nat.le_of_ble_eq_true rfl)⟩ (fun u_ H locs hq17 hP hD hS => ?_)
        obtain ⟨kd2_13, bg2_14, nx2_15, r_16⟩ := u_
        replace hq17 : (0 ≤ nx2_15.toInt ∧ nx2_15.toInt ≤ 400) ∧ (0 ≤ bg2_14.toInt ∧ bg2_14.toInt ≤ 400) ∧ (zKd kd2_13.toInt bg2_14.toInt nx2_15.toInt) ∧ (r_16 = 0 ∨ r_16 = 1) := hq17
        have hP : va_P g.1 vwCl (List.flatten [bLT g lt ta lo, bLaw g lo lc lz ll lm lg ld fc, bTape g ta ab sz ln kd2_13 bg2_14 nx2_15 ft fb]) H := hP
        have hD : va_D A (List.flatten [bLT g lt ta lo, bLaw g lo lc lz ll lm lg ld fc, bTape g ta ab sz ln kd2_13 bg2_14 nx2_15 ft fb]) := hD
        refine W.widen (k := 0) (n := 0) (Nat.le_of_ble_eq_true rfl) (Nat.le_of_ble_eq_true rfl) ?_
        refine W.eq (g2 := F0 m 82 ls [.int r_16]) rfl ?_
        obtain ⟨hq17_0, hq17_1, hq17_2, hq17_3⟩ := hq17
        rcases hq17_3 with rfl | rfl
        · skip
          refine lv_if_eq (tgt := 98) hx hb dX2_readAtom_82 (by decide) (fun _ => ?_) (fun c18 => absurd (by decide) c18)
          refine lv_aload_n hx hb dX2_readAtom_98 rfl (lv_at hl 0 rfl) ?_
          refine mcallV' (g := g) (q0 := 0) (ci := 2) (As := []) (rest := []) St hK hT hA hP hD hS hl.1 [0, 2, 1] [] rfl rfl rfl (c_lt_readSum l g lt ta lo ab sz ln kd2_13 bg2_14 nx2_15 ft fb lc lz ll lm lg ld fc b_lz hln hq17_0 hq17_1 hq17_2 hft) (cwV 0 hts (zgL (zl4 k313 k314 k315 k309) k304) rfl rfl rfl (by decide +kernel) ⟨Nat.le_of_ble_eq_true rfl, Nat.le_of_ble_eq_true rfl⟩) rfl rfl rfl rfl (Nat.le_of_ble_eq_true rfl) dX2_readAtom_99 ⟨(Nat.le_of_ble_eq_true rfl), (Nat.le_of_ble_eq_true rfl)⟩ (fun u_ H locs hq26 hP hD hS => ?_)
          obtain ⟨kd2_19, bg2_20, nx2_21, ft2_22, lz2_23, fc2_24, q_25⟩ := u_
          replace hq26 : (0 ≤ lz2_23.toInt ∧ lz2_23.toInt ≤ 400) ∧ (-1 ≤ ft2_22.toInt) ∧ (0 ≤ nx2_21.toInt ∧ nx2_21.toInt ≤ 400) ∧ (0 ≤ bg2_20.toInt ∧ bg2_20.toInt ≤ 400) ∧ (zKd kd2_19.toInt bg2_20.toInt nx2_21.toInt) ∧ (q_25 = 0 ∨ q_25 = 1) := hq26
          have hP : va_P g.1 vwCl (List.flatten [bLT g lt ta lo, bTape g ta ab sz ln kd2_19 bg2_20 nx2_21 ft2_22 fb, bLaw g lo lc lz2_23 ll lm lg ld fc2_24]) H := hP
          have hD : va_D A (List.flatten [bLT g lt ta lo, bTape g ta ab sz ln kd2_19 bg2_20 nx2_21 ft2_22 fb, bLaw g lo lc lz2_23 ll lm lg ld fc2_24]) := hD
          refine W.widen (k := 0) (n := 0) (Nat.le_of_ble_eq_true rfl) (Nat.le_of_ble_eq_true rfl) ?_
          refine W.eq (g2 := F0 m 102 ls [.int q_25]) rfl ?_
          obtain ⟨hq26_0, hq26_1, hq26_2, hq26_3, hq26_4, hq26_5⟩ := hq26
          rcases hq26_5 with rfl | rfl
          · skip
            refine lv_if_ne (tgt := 107) hx hb dX2_readAtom_102 (by decide) (fun c27 => absurd (by decide) c27) (fun _ => ?_)
            refine lv_iconst (v := 0) hx hb dX2_readAtom_105 (by decide) ?_
            have hP : va_P g.1 vwCl (List.flatten [bLT g lt ta lo, bTape g ta ab sz ln kd2_19 bg2_20 nx2_21 ft2_22 fb, bLaw g lo lc lz2_23 ll lm lg ld fc2_24]) H := hP
            have hD : va_D A (List.flatten [bLT g lt ta lo, bTape g ta ab sz ln kd2_19 bg2_20 nx2_21 ft2_22 fb, bLaw g lo lc lz2_23 ll lm lg ld fc2_24]) := hD
            exact mret_z hx hb hr hlocks hS (Nat.le_of_ble_eq_true rfl) (Nat.le_of_ble_eq_true rfl) dX2_readAtom_106 (kd2_19, bg2_20, nx2_21, ft2_22, lz2_23, fc2_24, (0 : Int32)) rfl (by decide) (show (0 ≤ lz2_23.toInt ∧ lz2_23.toInt ≤ 400) ∧ (-1 ≤ ft2_22.toInt) ∧ (0 ≤ nx2_21.toInt ∧ nx2_21.toInt ≤ 400) ∧ (0 ≤ bg2_20.toInt ∧ bg2_20.toInt ≤ 400) ∧ (zKd kd2_19.toInt bg2_20.toInt nx2_21.toInt) ∧ (0 = 0 ∨ 0 = 1) from ⟨hq26_0, hq26_1, hq26_2, hq26_3, hq26_4, (by decide)⟩) hP hD
          · skip
            refine lv_if_ne (tgt := 107) hx hb dX2_readAtom_102 (by decide) (fun _ => ?_) (fun c28 => absurd c28 (by decide))
            refine lv_aload_n hx hb dX2_readAtom_107 rfl (lv_at hl 0 rfl) ?_
            refine va_get (D := g.1) (ci := 2) (v := .ref ta) (C := RX2) (T := TX2) (N := 2) hx hb hts izRX2 hown hK hP 0 rfl rfl 0 (by decide) (hts _ k290) (fun x9 h9 => u_same (hts _ k291) x9 h9) rfl dX2_readAtom_108 ?_
            refine lv_bipush (v := 60) hx hb dX2_readAtom_111 (by decide) ?_
            refine mcallV' (g := g) (q0 := 0) (ci := 6) (As := [.int 60]) (rest := []) St hK hT hA hP hD hS hl.1 [1] [0, 2] rfl rfl rfl (c_t_isSign l g ta ab sz ln kd2_19 bg2_20 nx2_21 ft2_22 fb 60 hln hq26_2 hq26_3 hq26_4 hq26_1) (cwV 1 hts (zgL (zl4 k305 k288 k289 k277) k285) rfl rfl rfl (by decide +kernel) ⟨Nat.le_of_ble_eq_true rfl, Nat.le_of_ble_eq_true rfl⟩) rfl rfl rfl rfl (Nat.le_of_ble_eq_true rfl) dX2_readAtom_113 ⟨(Nat.le_of_ble_eq_true rfl), (Nat.le_of_ble_eq_true rfl)⟩ (fun q_29 H locs hq30 hP hD hS => ?_)
            replace hq30 : (q_29 = 0 ∨ q_29 = 1) := hq30
            have hP : va_P g.1 vwCl (List.flatten [bLT g lt ta lo, bLaw g lo lc lz2_23 ll lm lg ld fc2_24, bTape g ta ab sz ln kd2_19 bg2_20 nx2_21 ft2_22 fb]) H := hP
            have hD : va_D A (List.flatten [bLT g lt ta lo, bLaw g lo lc lz2_23 ll lm lg ld fc2_24, bTape g ta ab sz ln kd2_19 bg2_20 nx2_21 ft2_22 fb]) := hD
            refine W.widen (k := 0) (n := 0) (Nat.le_of_ble_eq_true rfl) (Nat.le_of_ble_eq_true rfl) ?_
            refine W.eq (g2 := F0 m 116 ls [.int q_29]) rfl ?_
            rcases hq30 with rfl | rfl
            · skip
              refine lv_istore_n (lv' := [(2, .int 0), (0, .ref lt), (1, .int 6)]) hx hb dX2_readAtom_116 rfl hl (by decide) rfl (fun ls hl => ?_)
              refine lv_iload_n hx hb dX2_readAtom_117 rfl (lv_at hl 0 rfl) ?_
              refine lv_if_ne (tgt := 141) hx hb dX2_readAtom_118 (by decide) (fun c31 => absurd (by decide) c31) (fun _ => ?_)
              refine lv_aload_n hx hb dX2_readAtom_121 rfl (lv_at hl 1 rfl) ?_
              refine va_get (D := g.1) (ci := 2) (v := .ref ta) (C := RX2) (T := TX2) (N := 2) hx hb hts izRX2 hown hK hP 0 rfl rfl 0 (by decide) (hts _ k290) (fun x9 h9 => u_same (hts _ k291) x9 h9) rfl dX2_readAtom_122 ?_
              refine lv_bipush (v := 62) hx hb dX2_readAtom_125 (by decide) ?_
              refine mcallV' (g := g) (q0 := 0) (ci := 6) (As := [.int 62]) (rest := []) St hK hT hA hP hD hS hl.1 [2] [0, 1] rfl rfl rfl (c_t_isSign l g ta ab sz ln kd2_19 bg2_20 nx2_21 ft2_22 fb 62 hln hq26_2 hq26_3 hq26_4 hq26_1) (cwV 1 hts (zgL (zl4 k305 k288 k289 k277) k285) rfl rfl rfl (by decide +kernel) ⟨Nat.le_of_ble_eq_true rfl, Nat.le_of_ble_eq_true rfl⟩) rfl rfl rfl rfl (Nat.le_of_ble_eq_true rfl) dX2_readAtom_127 ⟨(Nat.le_of_ble_eq_true rfl), (Nat.le_of_ble_eq_true rfl)⟩ (fun q_32 H locs hq33 hP hD hS => ?_)
              replace hq33 : (q_32 = 0 ∨ q_32 = 1) := hq33
              have hP : va_P g.1 vwCl (List.flatten [bLT g lt ta lo, bLaw g lo lc lz2_23 ll lm lg ld fc2_24, bTape g ta ab sz ln kd2_19 bg2_20 nx2_21 ft2_22 fb]) H := hP
              have hD : va_D A (List.flatten [bLT g lt ta lo, bLaw g lo lc lz2_23 ll lm lg ld fc2_24, bTape g ta ab sz ln kd2_19 bg2_20 nx2_21 ft2_22 fb]) := hD
              refine W.widen (k := 0) (n := 0) (Nat.le_of_ble_eq_true rfl) (Nat.le_of_ble_eq_true rfl) ?_
              refine W.eq (g2 := F0 m 130 ls [.int q_32]) rfl ?_
              rcases hq33 with rfl | rfl
              · skip
                refine lv_if_ne (tgt := 141) hx hb dX2_readAtom_130 (by decide) (fun c34 => absurd (by decide) c34) (fun _ => ?_)
                refine lv_aload_n hx hb dX2_readAtom_133 rfl (lv_at hl 1 rfl) ?_
                refine va_get (D := g.1) (ci := 2) (v := .ref ta) (C := RX2) (T := TX2) (N := 2) hx hb hts izRX2 hown hK hP 0 rfl rfl 0 (by decide) (hts _ k290) (fun x9 h9 => u_same (hts _ k291) x9 h9) rfl dX2_readAtom_134 ?_
                refine mcallV' (g := g) (q0 := 0) (ci := 6) (As := []) (rest := []) St hK hT hA hP hD hS hl.1 [2] [0, 1] rfl rfl rfl (c_t_refuse l g ta ab sz ln kd2_19 bg2_20 nx2_21 ft2_22 fb hln hq26_2 hq26_3 hq26_4 hq26_1) (cwV 0 hts (zgL (zl4 k303 k279 k280 k277) k269) rfl rfl rfl (by decide +kernel) ⟨Nat.le_of_ble_eq_true rfl, Nat.le_of_ble_eq_true rfl⟩) rfl rfl rfl rfl (Nat.le_of_ble_eq_true rfl) dX2_readAtom_137 ⟨(Nat.le_of_ble_eq_true rfl), (Nat.le_of_ble_eq_true rfl)⟩ (fun ft2_35 H locs hq36 hP hD hS => ?_)
                replace hq36 : (-1 ≤ ft2_35.toInt) := hq36
                have hP : va_P g.1 vwCl (List.flatten [bLT g lt ta lo, bLaw g lo lc lz2_23 ll lm lg ld fc2_24, bTape g ta ab sz ln kd2_19 bg2_20 nx2_21 ft2_35 fb]) H := hP
                have hD : va_D A (List.flatten [bLT g lt ta lo, bLaw g lo lc lz2_23 ll lm lg ld fc2_24, bTape g ta ab sz ln kd2_19 bg2_20 nx2_21 ft2_35 fb]) := hD
                refine W.widen (k := 0) (n := 0) (Nat.le_of_ble_eq_true rfl) (Nat.le_of_ble_eq_true rfl) ?_
                refine W.eq (g2 := F0 m 140 ls [.int 0]) rfl ?_
                have hP : va_P g.1 vwCl (List.flatten [bLT g lt ta lo, bLaw g lo lc lz2_23 ll lm lg ld fc2_24, bTape g ta ab sz ln kd2_19 bg2_20 nx2_21 ft2_35 fb]) H := hP
                have hD : va_D A (List.flatten [bLT g lt ta lo, bLaw g lo lc lz2_23 ll lm lg ld fc2_24, bTape g ta ab sz ln kd2_19 bg2_20 nx2_21 ft2_35 fb]) := hD
                obtain ⟨hP, hD⟩ := zord (g := g) (Bs' := [bLT g lt ta lo, bTape g ta ab sz ln kd2_19 bg2_20 nx2_21 ft2_35 fb, bLaw g lo lc lz2_23 ll lm lg ld fc2_24]) [0, 2, 1] rfl rfl hP hD
                exact mret_z hx hb hr hlocks hS (Nat.le_of_ble_eq_true rfl) (Nat.le_of_ble_eq_true rfl) dX2_readAtom_140 (kd2_19, bg2_20, nx2_21, ft2_35, lz2_23, fc2_24, (0 : Int32)) rfl (by decide) (show (0 ≤ lz2_23.toInt ∧ lz2_23.toInt ≤ 400) ∧ (-1 ≤ ft2_35.toInt) ∧ (0 ≤ nx2_21.toInt ∧ nx2_21.toInt ≤ 400) ∧ (0 ≤ bg2_20.toInt ∧ bg2_20.toInt ≤ 400) ∧ (zKd kd2_19.toInt bg2_20.toInt nx2_21.toInt) ∧ (0 = 0 ∨ 0 = 1) from ⟨hq26_0, hq36, hq26_2, hq26_3, hq26_4, (by decide)⟩) hP hD
              · skip
                refine lv_if_ne (tgt := 141) hx hb dX2_readAtom_130 (by decide) (fun _ => ?_) (fun c37 => absurd c37 (by decide))
                refine lv_aload_n hx hb dX2_readAtom_141 rfl (lv_at hl 1 rfl) ?_
                refine va_get (D := g.1) (ci := 2) (v := .ref ta) (C := RX2) (T := TX2) (N := 2) hx hb hts izRX2 hown hK hP 0 rfl rfl 0 (by decide) (hts _ k290) (fun x9 h9 => u_same (hts _ k291) x9 h9) rfl dX2_readAtom_142 ?_
                refine mcallV' (g := g) (q0 := 0) (ci := 6) (As := []) (rest := []) St hK hT hA hP hD hS hl.1 [2] [0, 1] rfl rfl rfl (c_t_step l g ta ab sz ln kd2_19 bg2_20 nx2_21 ft2_22 fb hln hq26_2) (cwV 0 hts (zgL (zl4 k296 k275 k276 k277) k271) rfl rfl rfl (by decide +kernel) ⟨Nat.le_of_ble_eq_true rfl, Nat.le_of_ble_eq_true rfl⟩) rfl rfl rfl rfl (Nat.le_of_ble_eq_true rfl) dX2_readAtom_145 ⟨(Nat.le_of_ble_eq_true rfl), (Nat.le_of_ble_eq_true rfl)⟩ (fun u_ H locs hq41 hP hD hS => ?_)
                obtain ⟨kd2_38, bg2_39, nx2_40⟩ := u_
                replace hq41 : (0 ≤ nx2_40.toInt ∧ nx2_40.toInt ≤ 400) ∧ (0 ≤ bg2_39.toInt ∧ bg2_39.toInt ≤ 400) ∧ (zKd kd2_38.toInt bg2_39.toInt nx2_40.toInt) := hq41
                have hP : va_P g.1 vwCl (List.flatten [bLT g lt ta lo, bLaw g lo lc lz2_23 ll lm lg ld fc2_24, bTape g ta ab sz ln kd2_38 bg2_39 nx2_40 ft2_22 fb]) H := hP
                have hD : va_D A (List.flatten [bLT g lt ta lo, bLaw g lo lc lz2_23 ll lm lg ld fc2_24, bTape g ta ab sz ln kd2_38 bg2_39 nx2_40 ft2_22 fb]) := hD
                refine W.widen (k := 0) (n := 0) (Nat.le_of_ble_eq_true rfl) (Nat.le_of_ble_eq_true rfl) ?_
                refine W.eq (g2 := F0 m 148 ls []) rfl ?_
                obtain ⟨hq41_0, hq41_1, hq41_2⟩ := hq41
                refine lv_aload_n hx hb dX2_readAtom_148 rfl (lv_at hl 1 rfl) ?_
                refine va_get (D := g.1) (ci := 2) (v := .ref lo) (C := RX2) (T := TX2) (N := 2) hx hb hts izRX2 hown hK hP 0 rfl rfl 1 (by decide) (hts _ k210) (fun _ h9 => h9) rfl dX2_readAtom_149 ?_
                refine lv_bipush (v := 7) hx hb dX2_readAtom_152 (by decide) ?_
                refine lv_iconst (v := 0) hx hb dX2_readAtom_154 (by decide) ?_
                refine mcallV' (g := g) (q0 := 0) (ci := 1) (As := [.int 7, .int 0]) (rest := []) St hK hT hA hP hD hS hl.1 [1] [0, 2] rfl rfl rfl (c_l_put l g lo lc lz2_23 ll lm lg ld fc2_24 7 0 hq26_0) (cwV 2 hts (zgL (zl4 k297 k298 k299 k85) k202) rfl rfl rfl (by decide +kernel) ⟨Nat.le_of_ble_eq_true rfl, Nat.le_of_ble_eq_true rfl⟩) rfl rfl rfl rfl (Nat.le_of_ble_eq_true rfl) dX2_readAtom_155 ⟨(Nat.le_of_ble_eq_true rfl), (Nat.le_of_ble_eq_true rfl)⟩ (fun u_ H locs hq45 hP hD hS => ?_)
                obtain ⟨lz2_42, fc2_43, q_44⟩ := u_
                replace hq45 : (0 ≤ lz2_42.toInt ∧ lz2_42.toInt ≤ 400) := hq45
                have hP : va_P g.1 vwCl (List.flatten [bLT g lt ta lo, bTape g ta ab sz ln kd2_38 bg2_39 nx2_40 ft2_22 fb, bLaw g lo lc lz2_42 ll lm lg ld fc2_43]) H := hP
                have hD : va_D A (List.flatten [bLT g lt ta lo, bTape g ta ab sz ln kd2_38 bg2_39 nx2_40 ft2_22 fb, bLaw g lo lc lz2_42 ll lm lg ld fc2_43]) := hD
                refine W.widen (k := 0) (n := 0) (Nat.le_of_ble_eq_true rfl) (Nat.le_of_ble_eq_true rfl) ?_
                refine W.eq (g2 := F0 m 158 ls [.int q_44]) rfl ?_
                refine lv_pop hx hb dX2_readAtom_158 rfl ?_
                refine lv_aload_n hx hb dX2_readAtom_159 rfl (lv_at hl 1 rfl) ?_
                refine mcallV' (g := g) (q0 := 0) (ci := 2) (As := []) (rest := []) St hK hT hA hP hD hS hl.1 [0, 1, 2] [] rfl rfl rfl (c_lt_readSum l g lt ta lo ab sz ln kd2_38 bg2_39 nx2_40 ft2_22 fb lc lz2_42 ll lm lg ld fc2_43 hq45 hln hq41_0 hq41_1 hq41_2 hq26_1) (cwV 0 hts (zgL (zl4 k313 k314 k315 k309) k304) rfl rfl rfl (by decide +kernel) ⟨Nat.le_of_ble_eq_true rfl, Nat.le_of_ble_eq_true rfl⟩) rfl rfl rfl rfl (Nat.le_of_ble_eq_true rfl) dX2_readAtom_160 ⟨(Nat.le_of_ble_eq_true rfl), (Nat.le_of_ble_eq_true rfl)⟩ (fun u_ H locs hq53 hP hD hS => ?_)
                obtain ⟨kd2_46, bg2_47, nx2_48, ft2_49, lz2_50, fc2_51, q_52⟩ := u_
                replace hq53 : (0 ≤ lz2_50.toInt ∧ lz2_50.toInt ≤ 400) ∧ (-1 ≤ ft2_49.toInt) ∧ (0 ≤ nx2_48.toInt ∧ nx2_48.toInt ≤ 400) ∧ (0 ≤ bg2_47.toInt ∧ bg2_47.toInt ≤ 400) ∧ (zKd kd2_46.toInt bg2_47.toInt nx2_48.toInt) ∧ (q_52 = 0 ∨ q_52 = 1) := hq53
                have hP : va_P g.1 vwCl (List.flatten [bLT g lt ta lo, bTape g ta ab sz ln kd2_46 bg2_47 nx2_48 ft2_49 fb, bLaw g lo lc lz2_50 ll lm lg ld fc2_51]) H := hP
                have hD : va_D A (List.flatten [bLT g lt ta lo, bTape g ta ab sz ln kd2_46 bg2_47 nx2_48 ft2_49 fb, bLaw g lo lc lz2_50 ll lm lg ld fc2_51]) := hD
                refine W.widen (k := 0) (n := 0) (Nat.le_of_ble_eq_true rfl) (Nat.le_of_ble_eq_true rfl) ?_
                refine W.eq (g2 := F0 m 163 ls [.int q_52]) rfl ?_
                obtain ⟨hq53_0, hq53_1, hq53_2, hq53_3, hq53_4, hq53_5⟩ := hq53
                rcases hq53_5 with rfl | rfl
                · skip
                  refine lv_if_ne (tgt := 168) hx hb dX2_readAtom_163 (by decide) (fun c54 => absurd (by decide) c54) (fun _ => ?_)
                  refine lv_iconst (v := 0) hx hb dX2_readAtom_166 (by decide) ?_
                  have hP : va_P g.1 vwCl (List.flatten [bLT g lt ta lo, bTape g ta ab sz ln kd2_46 bg2_47 nx2_48 ft2_49 fb, bLaw g lo lc lz2_50 ll lm lg ld fc2_51]) H := hP
                  have hD : va_D A (List.flatten [bLT g lt ta lo, bTape g ta ab sz ln kd2_46 bg2_47 nx2_48 ft2_49 fb, bLaw g lo lc lz2_50 ll lm lg ld fc2_51]) := hD
                  exact mret_z hx hb hr hlocks hS (Nat.le_of_ble_eq_true rfl) (Nat.le_of_ble_eq_true rfl) dX2_readAtom_167 (kd2_46, bg2_47, nx2_48, ft2_49, lz2_50, fc2_51, (0 : Int32)) rfl (by decide) (show (0 ≤ lz2_50.toInt ∧ lz2_50.toInt ≤ 400) ∧ (-1 ≤ ft2_49.toInt) ∧ (0 ≤ nx2_48.toInt ∧ nx2_48.toInt ≤ 400) ∧ (0 ≤ bg2_47.toInt ∧ bg2_47.toInt ≤ 400) ∧ (zKd kd2_46.toInt bg2_47.toInt nx2_48.toInt) ∧ (0 = 0 ∨ 0 = 1) from ⟨hq53_0, hq53_1, hq53_2, hq53_3, hq53_4, (by decide)⟩) hP hD
                · skip
                  refine lv_if_ne (tgt := 168) hx hb dX2_readAtom_163 (by decide) (fun _ => ?_) (fun c55 => absurd c55 (by decide))
                  refine lv_aload_n hx hb dX2_readAtom_168 rfl (lv_at hl 1 rfl) ?_
                  refine va_get (D := g.1) (ci := 2) (v := .ref lo) (C := RX2) (T := TX2) (N := 2) hx hb hts izRX2 hown hK hP 0 rfl rfl 1 (by decide) (hts _ k210) (fun _ h9 => h9) rfl dX2_readAtom_169 ?_
                  refine lv_iload_n hx hb dX2_readAtom_172 rfl (lv_at hl 0 rfl) ?_
                  refine lv_if_eq (tgt := 181) hx hb dX2_readAtom_173 (by decide) (fun _ => ?_) (fun c56 => absurd (by decide) c56)
                  refine lv_bipush (v := 9) hx hb dX2_readAtom_181 (by decide) ?_
                  refine lv_iconst (v := 0) hx hb dX2_readAtom_183 (by decide) ?_
                  refine mcallV' (g := g) (q0 := 0) (ci := 1) (As := [.int 9, .int 0]) (rest := []) St hK hT hA hP hD hS hl.1 [2] [0, 1] rfl rfl rfl (c_l_put l g lo lc lz2_50 ll lm lg ld fc2_51 9 0 hq53_0) (cwV 2 hts (zgL (zl4 k297 k298 k299 k85) k202) rfl rfl rfl (by decide +kernel) ⟨Nat.le_of_ble_eq_true rfl, Nat.le_of_ble_eq_true rfl⟩) rfl rfl rfl rfl (Nat.le_of_ble_eq_true rfl) dX2_readAtom_184 ⟨(Nat.le_of_ble_eq_true rfl), (Nat.le_of_ble_eq_true rfl)⟩ (fun u_ H locs hq60 hP hD hS => ?_)
                  obtain ⟨lz2_57, fc2_58, q_59⟩ := u_
                  replace hq60 : (0 ≤ lz2_57.toInt ∧ lz2_57.toInt ≤ 400) := hq60
                  have hP : va_P g.1 vwCl (List.flatten [bLT g lt ta lo, bTape g ta ab sz ln kd2_46 bg2_47 nx2_48 ft2_49 fb, bLaw g lo lc lz2_57 ll lm lg ld fc2_58]) H := hP
                  have hD : va_D A (List.flatten [bLT g lt ta lo, bTape g ta ab sz ln kd2_46 bg2_47 nx2_48 ft2_49 fb, bLaw g lo lc lz2_57 ll lm lg ld fc2_58]) := hD
                  refine W.widen (k := 0) (n := 0) (Nat.le_of_ble_eq_true rfl) (Nat.le_of_ble_eq_true rfl) ?_
                  refine W.eq (g2 := F0 m 187 ls [.int q_59]) rfl ?_
                  refine lv_pop hx hb dX2_readAtom_187 rfl ?_
                  refine lv_iconst (v := 1) hx hb dX2_readAtom_188 (by decide) ?_
                  have hP : va_P g.1 vwCl (List.flatten [bLT g lt ta lo, bTape g ta ab sz ln kd2_46 bg2_47 nx2_48 ft2_49 fb, bLaw g lo lc lz2_57 ll lm lg ld fc2_58]) H := hP
                  have hD : va_D A (List.flatten [bLT g lt ta lo, bTape g ta ab sz ln kd2_46 bg2_47 nx2_48 ft2_49 fb, bLaw g lo lc lz2_57 ll lm lg ld fc2_58]) := hD
                  exact mret_z hx hb hr hlocks hS (Nat.le_of_ble_eq_true rfl) (Nat.le_of_ble_eq_true rfl) dX2_readAtom_189 (kd2_46, bg2_47, nx2_48, ft2_49, lz2_57, fc2_58, (1 : Int32)) rfl (by decide) (show (0 ≤ lz2_57.toInt ∧ lz2_57.toInt ≤ 400) ∧ (-1 ≤ ft2_49.toInt) ∧ (0 ≤ nx2_48.toInt ∧ nx2_48.toInt ≤ 400) ∧ (0 ≤ bg2_47.toInt ∧ bg2_47.toInt ≤ 400) ∧ (zKd kd2_46.toInt bg2_47.toInt nx2_48.toInt) ∧ (1 = 0 ∨ 1 = 1) from ⟨hq60, hq53_1, hq53_2, hq53_3, hq53_4, (by decide)⟩) hP hD
            · skip
              refine lv_istore_n (lv' := [(2, .int 1), (0, .ref lt), (1, .int 6)]) hx hb dX2_readAtom_116 rfl hl (by decide) rfl (fun ls hl => ?_)
              refine lv_iload_n hx hb dX2_readAtom_117 rfl (lv_at hl 0 rfl) ?_
              refine lv_if_ne (tgt := 141) hx hb dX2_readAtom_118 (by decide) (fun _ => ?_) (fun c61 => absurd c61 (by decide))
              refine lv_aload_n hx hb dX2_readAtom_141 rfl (lv_at hl 1 rfl) ?_
              refine va_get (D := g.1) (ci := 2) (v := .ref ta) (C := RX2) (T := TX2) (N := 2) hx hb hts izRX2 hown hK hP 0 rfl rfl 0 (by decide) (hts _ k290) (fun x9 h9 => u_same (hts _ k291) x9 h9) rfl dX2_readAtom_142 ?_
              refine mcallV' (g := g) (q0 := 0) (ci := 6) (As := []) (rest := []) St hK hT hA hP hD hS hl.1 [2] [0, 1] rfl rfl rfl (c_t_step l g ta ab sz ln kd2_19 bg2_20 nx2_21 ft2_22 fb hln hq26_2) (cwV 0 hts (zgL (zl4 k296 k275 k276 k277) k271) rfl rfl rfl (by decide +kernel) ⟨Nat.le_of_ble_eq_true rfl, Nat.le_of_ble_eq_true rfl⟩) rfl rfl rfl rfl (Nat.le_of_ble_eq_true rfl) dX2_readAtom_145 ⟨(Nat.le_of_ble_eq_true rfl), (Nat.le_of_ble_eq_true rfl)⟩ (fun u_ H locs hq65 hP hD hS => ?_)
              obtain ⟨kd2_62, bg2_63, nx2_64⟩ := u_
              replace hq65 : (0 ≤ nx2_64.toInt ∧ nx2_64.toInt ≤ 400) ∧ (0 ≤ bg2_63.toInt ∧ bg2_63.toInt ≤ 400) ∧ (zKd kd2_62.toInt bg2_63.toInt nx2_64.toInt) := hq65
              have hP : va_P g.1 vwCl (List.flatten [bLT g lt ta lo, bLaw g lo lc lz2_23 ll lm lg ld fc2_24, bTape g ta ab sz ln kd2_62 bg2_63 nx2_64 ft2_22 fb]) H := hP
              have hD : va_D A (List.flatten [bLT g lt ta lo, bLaw g lo lc lz2_23 ll lm lg ld fc2_24, bTape g ta ab sz ln kd2_62 bg2_63 nx2_64 ft2_22 fb]) := hD
              refine W.widen (k := 0) (n := 0) (Nat.le_of_ble_eq_true rfl) (Nat.le_of_ble_eq_true rfl) ?_
              refine W.eq (g2 := F0 m 148 ls []) rfl ?_
              obtain ⟨hq65_0, hq65_1, hq65_2⟩ := hq65
              refine lv_aload_n hx hb dX2_readAtom_148 rfl (lv_at hl 1 rfl) ?_
              refine va_get (D := g.1) (ci := 2) (v := .ref lo) (C := RX2) (T := TX2) (N := 2) hx hb hts izRX2 hown hK hP 0 rfl rfl 1 (by decide) (hts _ k210) (fun _ h9 => h9) rfl dX2_readAtom_149 ?_
              refine lv_bipush (v := 7) hx hb dX2_readAtom_152 (by decide) ?_
              refine lv_iconst (v := 0) hx hb dX2_readAtom_154 (by decide) ?_
              refine mcallV' (g := g) (q0 := 0) (ci := 1) (As := [.int 7, .int 0]) (rest := []) St hK hT hA hP hD hS hl.1 [1] [0, 2] rfl rfl rfl (c_l_put l g lo lc lz2_23 ll lm lg ld fc2_24 7 0 hq26_0) (cwV 2 hts (zgL (zl4 k297 k298 k299 k85) k202) rfl rfl rfl (by decide +kernel) ⟨Nat.le_of_ble_eq_true rfl, Nat.le_of_ble_eq_true rfl⟩) rfl rfl rfl rfl (Nat.le_of_ble_eq_true rfl) dX2_readAtom_155 ⟨(Nat.le_of_ble_eq_true rfl), (Nat.le_of_ble_eq_true rfl)⟩ (fun u_ H locs hq69 hP hD hS => ?_)
              obtain ⟨lz2_66, fc2_67, q_68⟩ := u_
              replace hq69 : (0 ≤ lz2_66.toInt ∧ lz2_66.toInt ≤ 400) := hq69
              have hP : va_P g.1 vwCl (List.flatten [bLT g lt ta lo, bTape g ta ab sz ln kd2_62 bg2_63 nx2_64 ft2_22 fb, bLaw g lo lc lz2_66 ll lm lg ld fc2_67]) H := hP
              have hD : va_D A (List.flatten [bLT g lt ta lo, bTape g ta ab sz ln kd2_62 bg2_63 nx2_64 ft2_22 fb, bLaw g lo lc lz2_66 ll lm lg ld fc2_67]) := hD
              refine W.widen (k := 0) (n := 0) (Nat.le_of_ble_eq_true rfl) (Nat.le_of_ble_eq_true rfl) ?_
              refine W.eq (g2 := F0 m 158 ls [.int q_68]) rfl ?_
              refine lv_pop hx hb dX2_readAtom_158 rfl ?_
              refine lv_aload_n hx hb dX2_readAtom_159 rfl (lv_at hl 1 rfl) ?_
              refine mcallV' (g := g) (q0 := 0) (ci := 2) (As := []) (rest := []) St hK hT hA hP hD hS hl.1 [0, 1, 2] [] rfl rfl rfl (c_lt_readSum l g lt ta lo ab sz ln kd2_62 bg2_63 nx2_64 ft2_22 fb lc lz2_66 ll lm lg ld fc2_67 hq69 hln hq65_0 hq65_1 hq65_2 hq26_1) (cwV 0 hts (zgL (zl4 k313 k314 k315 k309) k304) rfl rfl rfl (by decide +kernel) ⟨Nat.le_of_ble_eq_true rfl, Nat.le_of_ble_eq_true rfl⟩) rfl rfl rfl rfl (Nat.le_of_ble_eq_true rfl) dX2_readAtom_160 ⟨(Nat.le_of_ble_eq_true rfl), (Nat.le_of_ble_eq_true rfl)⟩ (fun u_ H locs hq77 hP hD hS => ?_)
              obtain ⟨kd2_70, bg2_71, nx2_72, ft2_73, lz2_74, fc2_75, q_76⟩ := u_
              replace hq77 : (0 ≤ lz2_74.toInt ∧ lz2_74.toInt ≤ 400) ∧ (-1 ≤ ft2_73.toInt) ∧ (0 ≤ nx2_72.toInt ∧ nx2_72.toInt ≤ 400) ∧ (0 ≤ bg2_71.toInt ∧ bg2_71.toInt ≤ 400) ∧ (zKd kd2_70.toInt bg2_71.toInt nx2_72.toInt) ∧ (q_76 = 0 ∨ q_76 = 1) := hq77
              have hP : va_P g.1 vwCl (List.flatten [bLT g lt ta lo, bTape g ta ab sz ln kd2_70 bg2_71 nx2_72 ft2_73 fb, bLaw g lo lc lz2_74 ll lm lg ld fc2_75]) H := hP
              have hD : va_D A (List.flatten [bLT g lt ta lo, bTape g ta ab sz ln kd2_70 bg2_71 nx2_72 ft2_73 fb, bLaw g lo lc lz2_74 ll lm lg ld fc2_75]) := hD
              refine W.widen (k := 0) (n := 0) (Nat.le_of_ble_eq_true rfl) (Nat.le_of_ble_eq_true rfl) ?_
              refine W.eq (g2 := F0 m 163 ls [.int q_76]) rfl ?_
              obtain ⟨hq77_0, hq77_1, hq77_2, hq77_3, hq77_4, hq77_5⟩ := hq77
              rcases hq77_5 with rfl | rfl
              · skip
                refine lv_if_ne (tgt := 168) hx hb dX2_readAtom_163 (by decide) (fun c78 => absurd (by decide) c78) (fun _ => ?_)
                refine lv_iconst (v := 0) hx hb dX2_readAtom_166 (by decide) ?_
                have hP : va_P g.1 vwCl (List.flatten [bLT g lt ta lo, bTape g ta ab sz ln kd2_70 bg2_71 nx2_72 ft2_73 fb, bLaw g lo lc lz2_74 ll lm lg ld fc2_75]) H := hP
                have hD : va_D A (List.flatten [bLT g lt ta lo, bTape g ta ab sz ln kd2_70 bg2_71 nx2_72 ft2_73 fb, bLaw g lo lc lz2_74 ll lm lg ld fc2_75]) := hD
                exact mret_z hx hb hr hlocks hS (Nat.le_of_ble_eq_true rfl) (Nat.le_of_ble_eq_true rfl) dX2_readAtom_167 (kd2_70, bg2_71, nx2_72, ft2_73, lz2_74, fc2_75, (0 : Int32)) rfl (by decide) (show (0 ≤ lz2_74.toInt ∧ lz2_74.toInt ≤ 400) ∧ (-1 ≤ ft2_73.toInt) ∧ (0 ≤ nx2_72.toInt ∧ nx2_72.toInt ≤ 400) ∧ (0 ≤ bg2_71.toInt ∧ bg2_71.toInt ≤ 400) ∧ (zKd kd2_70.toInt bg2_71.toInt nx2_72.toInt) ∧ (0 = 0 ∨ 0 = 1) from ⟨hq77_0, hq77_1, hq77_2, hq77_3, hq77_4, (by decide)⟩) hP hD
              · skip
                refine lv_if_ne (tgt := 168) hx hb dX2_readAtom_163 (by decide) (fun _ => ?_) (fun c79 => absurd c79 (by decide))
                refine lv_aload_n hx hb dX2_readAtom_168 rfl (lv_at hl 1 rfl) ?_
                refine va_get (D := g.1) (ci := 2) (v := .ref lo) (C := RX2) (T := TX2) (N := 2) hx hb hts izRX2 hown hK hP 0 rfl rfl 1 (by decide) (hts _ k210) (fun _ h9 => h9) rfl dX2_readAtom_169 ?_
                refine lv_iload_n hx hb dX2_readAtom_172 rfl (lv_at hl 0 rfl) ?_
                refine lv_if_eq (tgt := 181) hx hb dX2_readAtom_173 (by decide) (fun c80 => absurd c80 (by decide)) (fun _ => ?_)
                refine lv_bipush (v := 8) hx hb dX2_readAtom_176 (by decide) ?_
                refine lv_goto (tgt := 183) hx hb dX2_readAtom_178 (by decide) ?_
                refine lv_iconst (v := 0) hx hb dX2_readAtom_183 (by decide) ?_
                refine mcallV' (g := g) (q0 := 0) (ci := 1) (As := [.int 8, .int 0]) (rest := []) St hK hT hA hP hD hS hl.1 [2] [0, 1] rfl rfl rfl (c_l_put l g lo lc lz2_74 ll lm lg ld fc2_75 8 0 hq77_0) (cwV 2 hts (zgL (zl4 k297 k298 k299 k85) k202) rfl rfl rfl (by decide +kernel) ⟨Nat.le_of_ble_eq_true rfl, Nat.le_of_ble_eq_true rfl⟩) rfl rfl rfl rfl (Nat.le_of_ble_eq_true rfl) dX2_readAtom_184 ⟨(Nat.le_of_ble_eq_true rfl), (Nat.le_of_ble_eq_true rfl)⟩ (fun u_ H locs hq84 hP hD hS => ?_)
                obtain ⟨lz2_81, fc2_82, q_83⟩ := u_
                replace hq84 : (0 ≤ lz2_81.toInt ∧ lz2_81.toInt ≤ 400) := hq84
                have hP : va_P g.1 vwCl (List.flatten [bLT g lt ta lo, bTape g ta ab sz ln kd2_70 bg2_71 nx2_72 ft2_73 fb, bLaw g lo lc lz2_81 ll lm lg ld fc2_82]) H := hP
                have hD : va_D A (List.flatten [bLT g lt ta lo, bTape g ta ab sz ln kd2_70 bg2_71 nx2_72 ft2_73 fb, bLaw g lo lc lz2_81 ll lm lg ld fc2_82]) := hD
                refine W.widen (k := 0) (n := 0) (Nat.le_of_ble_eq_true rfl) (Nat.le_of_ble_eq_true rfl) ?_
                refine W.eq (g2 := F0 m 187 ls [.int q_83]) rfl ?_
                refine lv_pop hx hb dX2_readAtom_187 rfl ?_
                refine lv_iconst (v := 1) hx hb dX2_readAtom_188 (by decide) ?_
                have hP : va_P g.1 vwCl (List.flatten [bLT g lt ta lo, bTape g ta ab sz ln kd2_70 bg2_71 nx2_72 ft2_73 fb, bLaw g lo lc lz2_81 ll lm lg ld fc2_82]) H := hP
                have hD : va_D A (List.flatten [bLT g lt ta lo, bTape g ta ab sz ln kd2_70 bg2_71 nx2_72 ft2_73 fb, bLaw g lo lc lz2_81 ll lm lg ld fc2_82]) := hD
                exact mret_z hx hb hr hlocks hS (Nat.le_of_ble_eq_true rfl) (Nat.le_of_ble_eq_true rfl) dX2_readAtom_189 (kd2_70, bg2_71, nx2_72, ft2_73, lz2_81, fc2_82, (1 : Int32)) rfl (by decide) (show (0 ≤ lz2_81.toInt ∧ lz2_81.toInt ≤ 400) ∧ (-1 ≤ ft2_73.toInt) ∧ (0 ≤ nx2_72.toInt ∧ nx2_72.toInt ≤ 400) ∧ (0 ≤ bg2_71.toInt ∧ bg2_71.toInt ≤ 400) ∧ (zKd kd2_70.toInt bg2_71.toInt nx2_72.toInt) ∧ (1 = 0 ∨ 1 = 1) from ⟨hq84, hq77_1, hq77_2, hq77_3, hq77_4, (by decide)⟩) hP hD
        · skip
          refine lv_if_eq (tgt := 98) hx hb dX2_readAtom_82 (by decide) (fun c85 => absurd c85 (by decide)) (fun _ => ?_)
          refine lv_aload_n hx hb dX2_readAtom_85 rfl (lv_at hl 0 rfl) ?_
          refine va_get (D := g.1) (ci := 2) (v := .ref lo) (C := RX2) (T := TX2) (N := 2) hx hb hts izRX2 hown hK hP 0 rfl rfl 1 (by decide) (hts _ k210) (fun _ h9 => h9) rfl dX2_readAtom_86 ?_
          refine lv_bipush (v := 11) hx hb dX2_readAtom_89 (by decide) ?_
          refine lv_iconst (v := 0) hx hb dX2_readAtom_91 (by decide) ?_
          refine mcallV' (g := g) (q0 := 0) (ci := 1) (As := [.int 11, .int 0]) (rest := []) St hK hT hA hP hD hS hl.1 [1] [0, 2] rfl rfl rfl (c_l_put l g lo lc lz ll lm lg ld fc 11 0 b_lz) (cwV 2 hts (zgL (zl4 k297 k298 k299 k85) k202) rfl rfl rfl (by decide +kernel) ⟨Nat.le_of_ble_eq_true rfl, Nat.le_of_ble_eq_true rfl⟩) rfl rfl rfl rfl (Nat.le_of_ble_eq_true rfl) dX2_readAtom_92 ⟨(Nat.le_of_ble_eq_true rfl), (Nat.le_of_ble_eq_true rfl)⟩ (fun u_ H locs hq89 hP hD hS => ?_)
          obtain ⟨lz2_86, fc2_87, q_88⟩ := u_
          replace hq89 : (0 ≤ lz2_86.toInt ∧ lz2_86.toInt ≤ 400) := hq89
          have hP : va_P g.1 vwCl (List.flatten [bLT g lt ta lo, bTape g ta ab sz ln kd2_13 bg2_14 nx2_15 ft fb, bLaw g lo lc lz2_86 ll lm lg ld fc2_87]) H := hP
          have hD : va_D A (List.flatten [bLT g lt ta lo, bTape g ta ab sz ln kd2_13 bg2_14 nx2_15 ft fb, bLaw g lo lc lz2_86 ll lm lg ld fc2_87]) := hD
          refine W.widen (k := 0) (n := 0) (Nat.le_of_ble_eq_true rfl) (Nat.le_of_ble_eq_true rfl) ?_
          refine W.eq (g2 := F0 m 95 ls [.int q_88]) rfl ?_
          refine lv_pop hx hb dX2_readAtom_95 rfl ?_
          refine lv_iconst (v := 1) hx hb dX2_readAtom_96 (by decide) ?_
          have hP : va_P g.1 vwCl (List.flatten [bLT g lt ta lo, bTape g ta ab sz ln kd2_13 bg2_14 nx2_15 ft fb, bLaw g lo lc lz2_86 ll lm lg ld fc2_87]) H := hP
          have hD : va_D A (List.flatten [bLT g lt ta lo, bTape g ta ab sz ln kd2_13 bg2_14 nx2_15 ft fb, bLaw g lo lc lz2_86 ll lm lg ld fc2_87]) := hD
          exact mret_z hx hb hr hlocks hS (Nat.le_of_ble_eq_true rfl) (Nat.le_of_ble_eq_true rfl) dX2_readAtom_97 (kd2_13, bg2_14, nx2_15, ft, lz2_86, fc2_87, (1 : Int32)) rfl (by decide) (show (0 ≤ lz2_86.toInt ∧ lz2_86.toInt ≤ 400) ∧ (-1 ≤ ft.toInt) ∧ (0 ≤ nx2_15.toInt ∧ nx2_15.toInt ≤ 400) ∧ (0 ≤ bg2_14.toInt ∧ bg2_14.toInt ≤ 400) ∧ (zKd kd2_13.toInt bg2_14.toInt nx2_15.toInt) ∧ (1 = 0 ∨ 1 = 1) from ⟨hq89, hft, hq17_0, hq17_1, hq17_2, (by decide)⟩) hP hD
      · skip
        refine lv_if_eq (tgt := 73) hx hb dX2_readAtom_57 (by decide) (fun c90 => absurd c90 (by decide)) (fun _ => ?_)
        refine lv_aload_n hx hb dX2_readAtom_60 rfl (lv_at hl 0 rfl) ?_
        refine va_get (D := g.1) (ci := 2) (v := .ref lo) (C := RX2) (T := TX2) (N := 2) hx hb hts izRX2 hown hK hP 0 rfl rfl 1 (by decide) (hts _ k210) (fun _ h9 => h9) rfl dX2_readAtom_61 ?_
        refine lv_bipush (v := 10) hx hb dX2_readAtom_64 (by decide) ?_
        refine lv_iconst (v := 0) hx hb dX2_readAtom_66 (by decide) ?_
        refine mcallV' (g := g) (q0 := 0) (ci := 1) (As := [.int 10, .int 0]) (rest := []) St hK hT hA hP hD hS hl.1 [1] [0, 2] rfl rfl rfl (c_l_put l g lo lc lz ll lm lg ld fc 10 0 b_lz) (cwV 2 hts (zgL (zl4 k297 k298 k299 k85) k202) rfl rfl rfl (by decide +kernel) ⟨Nat.le_of_ble_eq_true rfl, Nat.le_of_ble_eq_true rfl⟩) rfl rfl rfl rfl (Nat.le_of_ble_eq_true rfl) dX2_readAtom_67 ⟨(Nat.le_of_ble_eq_true rfl), (Nat.le_of_ble_eq_true rfl)⟩ (fun u_ H locs hq94 hP hD hS => ?_)
        obtain ⟨lz2_91, fc2_92, q_93⟩ := u_
        replace hq94 : (0 ≤ lz2_91.toInt ∧ lz2_91.toInt ≤ 400) := hq94
        have hP : va_P g.1 vwCl (List.flatten [bLT g lt ta lo, bTape g ta ab sz ln kd2_7 bg2_8 nx2_9 ft fb, bLaw g lo lc lz2_91 ll lm lg ld fc2_92]) H := hP
        have hD : va_D A (List.flatten [bLT g lt ta lo, bTape g ta ab sz ln kd2_7 bg2_8 nx2_9 ft fb, bLaw g lo lc lz2_91 ll lm lg ld fc2_92]) := hD
        refine W.widen (k := 0) (n := 0) (Nat.le_of_ble_eq_true rfl) (Nat.le_of_ble_eq_true rfl) ?_
        refine W.eq (g2 := F0 m 70 ls [.int q_93]) rfl ?_
        refine lv_pop hx hb dX2_readAtom_70 rfl ?_
        refine lv_iconst (v := 1) hx hb dX2_readAtom_71 (by decide) ?_
        have hP : va_P g.1 vwCl (List.flatten [bLT g lt ta lo, bTape g ta ab sz ln kd2_7 bg2_8 nx2_9 ft fb, bLaw g lo lc lz2_91 ll lm lg ld fc2_92]) H := hP
        have hD : va_D A (List.flatten [bLT g lt ta lo, bTape g ta ab sz ln kd2_7 bg2_8 nx2_9 ft fb, bLaw g lo lc lz2_91 ll lm lg ld fc2_92]) := hD
        exact mret_z hx hb hr hlocks hS (Nat.le_of_ble_eq_true rfl) (Nat.le_of_ble_eq_true rfl) dX2_readAtom_72 (kd2_7, bg2_8, nx2_9, ft, lz2_91, fc2_92, (1 : Int32)) rfl (by decide) (show (0 ≤ lz2_91.toInt ∧ lz2_91.toInt ≤ 400) ∧ (-1 ≤ ft.toInt) ∧ (0 ≤ nx2_9.toInt ∧ nx2_9.toInt ≤ 400) ∧ (0 ≤ bg2_8.toInt ∧ bg2_8.toInt ≤ 400) ∧ (zKd kd2_7.toInt bg2_8.toInt nx2_9.toInt) ∧ (1 = 0 ∨ 1 = 1) from ⟨hq94, hft, hq11_0, hq11_1, hq11_2, (by decide)⟩) hP hD
    · skip
      refine lv_if_eq (tgt := 48) hx hb dX2_readAtom_21 (by decide) (fun c95 => absurd c95 (by decide)) (fun _ => ?_)
      refine lv_iload_n hx hb dX2_readAtom_24 rfl (lv_at hl 1 rfl) ?_
      refine lv_bipush (v := 6) hx hb dX2_readAtom_25 (by decide) ?_
      refine lv_icmp_ge (tgt := 40) hx hb dX2_readAtom_27 (by decide) (fun _ => ?_) (fun c96 => absurd (by decide) c96)
      refine lv_aload_n hx hb dX2_readAtom_40 rfl (lv_at hl 0 rfl) ?_
      refine va_get (D := g.1) (ci := 2) (v := .ref ta) (C := RX2) (T := TX2) (N := 2) hx hb hts izRX2 hown hK hP 0 rfl rfl 0 (by decide) (hts _ k290) (fun x9 h9 => u_same (hts _ k291) x9 h9) rfl dX2_readAtom_41 ?_
      refine mcallV' (g := g) (q0 := 0) (ci := 6) (As := []) (rest := []) St hK hT hA hP hD hS hl.1 [2] [0, 1] rfl rfl rfl (c_t_refuse l g ta ab sz ln kd bg nx ft fb hln hnx hbg hkd hft) (cwV 0 hts (zgL (zl4 k303 k279 k280 k277) k269) rfl rfl rfl (by decide +kernel) ⟨Nat.le_of_ble_eq_true rfl, Nat.le_of_ble_eq_true rfl⟩) rfl rfl rfl rfl (Nat.le_of_ble_eq_true rfl) dX2_readAtom_44 ⟨(Nat.le_of_ble_eq_true rfl), (Nat.le_of_ble_eq_true rfl)⟩ (fun ft2_97 H locs hq98 hP hD hS => ?_)
      replace hq98 : (-1 ≤ ft2_97.toInt) := hq98
      have hP : va_P g.1 vwCl (List.flatten [bLT g lt ta lo, bLaw g lo lc lz ll lm lg ld fc, bTape g ta ab sz ln kd bg nx ft2_97 fb]) H := hP
      have hD : va_D A (List.flatten [bLT g lt ta lo, bLaw g lo lc lz ll lm lg ld fc, bTape g ta ab sz ln kd bg nx ft2_97 fb]) := hD
      refine W.widen (k := 0) (n := 0) (Nat.le_of_ble_eq_true rfl) (Nat.le_of_ble_eq_true rfl) ?_
      refine W.eq (g2 := F0 m 47 ls [.int 0]) rfl ?_
      have hP : va_P g.1 vwCl (List.flatten [bLT g lt ta lo, bLaw g lo lc lz ll lm lg ld fc, bTape g ta ab sz ln kd bg nx ft2_97 fb]) H := hP
      have hD : va_D A (List.flatten [bLT g lt ta lo, bLaw g lo lc lz ll lm lg ld fc, bTape g ta ab sz ln kd bg nx ft2_97 fb]) := hD
      obtain ⟨hP, hD⟩ := zord (g := g) (Bs' := [bLT g lt ta lo, bTape g ta ab sz ln kd bg nx ft2_97 fb, bLaw g lo lc lz ll lm lg ld fc]) [0, 2, 1] rfl rfl hP hD
      exact mret_z hx hb hr hlocks hS (Nat.le_of_ble_eq_true rfl) (Nat.le_of_ble_eq_true rfl) dX2_readAtom_47 (kd, bg, nx, ft2_97, lz, fc, (0 : Int32)) rfl (by decide) (show (0 ≤ lz.toInt ∧ lz.toInt ≤ 400) ∧ (-1 ≤ ft2_97.toInt) ∧ (0 ≤ nx.toInt ∧ nx.toInt ≤ 400) ∧ (0 ≤ bg.toInt ∧ bg.toInt ≤ 400) ∧ (zKd kd.toInt bg.toInt nx.toInt) ∧ (0 = 0 ∨ 0 = 1) from ⟨b_lz, hq98, hnx, hbg, hkd, (by decide)⟩) hP hD
  · skip
    refine lv_if_ne (tgt := 24) hx hb dX2_readAtom_9 (by decide) (fun _ => ?_) (fun c99 => absurd c99 (by decide))
    refine lv_iload_n hx hb dX2_readAtom_24 rfl (lv_at hl 1 rfl) ?_
    refine lv_bipush (v := 6) hx hb dX2_readAtom_25 (by decide) ?_
    refine lv_icmp_ge (tgt := 40) hx hb dX2_readAtom_27 (by decide) (fun _ => ?_) (fun c100 => absurd (by decide) c100)
    refine lv_aload_n hx hb dX2_readAtom_40 rfl (lv_at hl 0 rfl) ?_
    refine va_get (D := g.1) (ci := 2) (v := .ref ta) (C := RX2) (T := TX2) (N := 2) hx hb hts izRX2 hown hK hP 0 rfl rfl 0 (by decide) (hts _ k290) (fun x9 h9 => u_same (hts _ k291) x9 h9) rfl dX2_readAtom_41 ?_
    refine mcallV' (g := g) (q0 := 0) (ci := 6) (As := []) (rest := []) St hK hT hA hP hD hS hl.1 [2] [0, 1] rfl rfl rfl (c_t_refuse l g ta ab sz ln kd bg nx ft fb hln hnx hbg hkd hft) (cwV 0 hts (zgL (zl4 k303 k279 k280 k277) k269) rfl rfl rfl (by decide +kernel) ⟨Nat.le_of_ble_eq_true rfl, Nat.le_of_ble_eq_true rfl⟩) rfl rfl rfl rfl (Nat.le_of_ble_eq_true rfl) dX2_readAtom_44 ⟨(Nat.le_of_ble_eq_true rfl), (Nat.le_of_ble_eq_true rfl)⟩ (fun ft2_101 H locs hq102 hP hD hS => ?_)
    replace hq102 : (-1 ≤ ft2_101.toInt) := hq102
    have hP : va_P g.1 vwCl (List.flatten [bLT g lt ta lo, bLaw g lo lc lz ll lm lg ld fc, bTape g ta ab sz ln kd bg nx ft2_101 fb]) H := hP
    have hD : va_D A (List.flatten [bLT g lt ta lo, bLaw g lo lc lz ll lm lg ld fc, bTape g ta ab sz ln kd bg nx ft2_101 fb]) := hD
    refine W.widen (k := 0) (n := 0) (Nat.le_of_ble_eq_true rfl) (Nat.le_of_ble_eq_true rfl) ?_
    refine W.eq (g2 := F0 m 47 ls [.int 0]) rfl ?_
    have hP : va_P g.1 vwCl (List.flatten [bLT g lt ta lo, bLaw g lo lc lz ll lm lg ld fc, bTape g ta ab sz ln kd bg nx ft2_101 fb]) H := hP
    have hD : va_D A (List.flatten [bLT g lt ta lo, bLaw g lo lc lz ll lm lg ld fc, bTape g ta ab sz ln kd bg nx ft2_101 fb]) := hD
    obtain ⟨hP, hD⟩ := zord (g := g) (Bs' := [bLT g lt ta lo, bTape g ta ab sz ln kd bg nx ft2_101 fb, bLaw g lo lc lz ll lm lg ld fc]) [0, 2, 1] rfl rfl hP hD
    exact mret_z hx hb hr hlocks hS (Nat.le_of_ble_eq_true rfl) (Nat.le_of_ble_eq_true rfl) dX2_readAtom_47 (kd, bg, nx, ft2_101, lz, fc, (0 : Int32)) rfl (by decide) (show (0 ≤ lz.toInt ∧ lz.toInt ≤ 400) ∧ (-1 ≤ ft2_101.toInt) ∧ (0 ≤ nx.toInt ∧ nx.toInt ≤ 400) ∧ (0 ≤ bg.toInt ∧ bg.toInt ≤ 400) ∧ (zKd kd.toInt bg.toInt nx.toInt) ∧ (0 = 0 ∨ 0 = 1) from ⟨b_lz, hq102, hnx, hbg, hkd, (by decide)⟩) hP hD
set_option maxRecDepth 100000 in
set_option maxHeartbeats 4000000 in
theorem c_lt_readCondition6 (l : Launch) (g : zG) (lt : Nat) (ta : Nat) (lo : Nat) (ab : Nat) (sz : Int32) (ln : Int32) (kd : Int32) (bg : Int32) (nx : Int32) (ft : Int32) (fb : Nat → Int32) (lc : Nat) (lz : Int32) (ll : Int32) (lm : Int32) (lg : Int32) (ld : Int32) (fc : Nat → Int32) (b_lz : 0 ≤ lz.toInt ∧ lz.toInt ≤ 400) (hln : 0 ≤ ln.toInt ∧ ln.toInt ≤ 400) (hnx : 0 ≤ nx.toInt ∧ nx.toInt ≤ 400) (hbg : 0 ≤ bg.toInt ∧ bg.toInt ≤ 400) (hkd : zKd kd.toInt bg.toInt nx.toInt) (hft : -1 ≤ ft.toInt) : zM' g l yX2_readCondition (Cond.code yX2_readCondition cX2_readCondition 5 (some .boolean) :: zB) ({ frames := 7, cells := 0, slots := 0, locals := 152 } : Room) [.ref lt, .int 6] [bLT g lt ta lo, bTape g ta ab sz ln kd bg nx ft fb, bLaw g lo lc lz ll lm lg ld fc] (fun u : Int32 × Int32 × Int32 × Int32 × Int32 × (Nat → Int32) × Int32 => (fun (kd2 : Int32) (bg2 : Int32) (nx2 : Int32) (ft2 : Int32) (lz2 : Int32) (fc2 : Nat → Int32) (q : Int32) => some (.int q)) (u.1) (u.2.1) (u.2.2.1) (u.2.2.2.1) (u.2.2.2.2.1) (u.2.2.2.2.2.1) (u.2.2.2.2.2.2)) (fun u : Int32 × Int32 × Int32 × Int32 × Int32 × (Nat → Int32) × Int32 => (fun (kd2 : Int32) (bg2 : Int32) (nx2 : Int32) (ft2 : Int32) (lz2 : Int32) (fc2 : Nat → Int32) (q : Int32) => (0 ≤ lz2.toInt ∧ lz2.toInt ≤ 400) ∧ (-1 ≤ ft2.toInt) ∧ (0 ≤ nx2.toInt ∧ nx2.toInt ≤ 400) ∧ (0 ≤ bg2.toInt ∧ bg2.toInt ≤ 400) ∧ (zKd kd2.toInt bg2.toInt nx2.toInt) ∧ (q = 0 ∨ q = 1)) (u.1) (u.2.1) (u.2.2.1) (u.2.2.2.1) (u.2.2.2.2.1) (u.2.2.2.2.2.1) (u.2.2.2.2.2.2)) (fun u : Int32 × Int32 × Int32 × Int32 × Int32 × (Nat → Int32) × Int32 => (fun (kd2 : Int32) (bg2 : Int32) (nx2 : Int32) (ft2 : Int32) (lz2 : Int32) (fc2 : Nat → Int32) (q : Int32) => [bLT g lt ta lo, bTape g ta ab sz ln kd2 bg2 nx2 ft2 fb, bLaw g lo lc lz2 ll lm lg ld fc2]) (u.1) (u.2.1) (u.2.2.1) (u.2.2.2.1) (u.2.2.2.2.1) (u.2.2.2.2.2.1) (u.2.2.2.2.2.2)) := by
  refine zM'.of (cc := cX2_readCondition) (maxL := 5) (rt := (some .boolean)) (by decide) rfl (Nat.le_of_ble_eq_true rfl) ?_
  intro p e s m args below meth c A ls St hr hlocks hin hK hT hA hP hD hS hl
  obtain ⟨hx, hb, hml, hown, hts⟩ := id St
  have hl : lv_has ls 5 [(0, .ref lt), (1, .int 6)] := hl
  refine lv_iconst (v := (-1)) hx hb dX2_readCondition_0 (by decide) ?_
  refine lv_istore_n (lv' := [(2, .int (-1)), (0, .ref lt), (1, .int 6)]) hx hb dX2_readCondition_1 rfl hl (by decide) rfl (fun ls hl => ?_)
  refine lv_iconst (v := (-1)) hx hb dX2_readCondition_2 (by decide) ?_
  refine lv_istore_n (lv' := [(3, .int (-1)), (2, .int (-1)), (0, .ref lt), (1, .int 6)]) hx hb dX2_readCondition_3 rfl hl (by decide) rfl (fun ls hl => ?_)
  refine lv_iconst (v := 0) hx hb dX2_readCondition_4 (by decide) ?_
  refine lv_istore (lv' := [(4, .int 0), (3, .int (-1)), (2, .int (-1)), (0, .ref lt), (1, .int 6)]) hx hb dX2_readCondition_5 hl (by decide) rfl (fun ls hl => ?_)
  have hl := lv_sub (l' := [(0, .ref lt), (1, .int 6), (2, .int (-1)), (3, .int (-1)), (4, .int 0)]) hl [3, 4, 2, 1, 0] rfl
  have LP7_16 : ∀ (kf : Nat) (x_1 : Int32) (x_2 : Int32) (x_3 : Int32) (x_4 : Int32) (x_5 : Int32) (x_6 : Int32) (x_7 : Int32) (x_8 : Int32) (fc_9 : Nat → Int32), (0 ≤ x_3.toInt ∧ x_3.toInt ≤ 400) → (0 ≤ x_5.toInt ∧ x_5.toInt ≤ 400) → (0 ≤ x_6.toInt ∧ x_6.toInt ≤ 400) → ((-1) ≤ x_7.toInt) → (0 ≤ x_8.toInt ∧ x_8.toInt ≤ 400) → (zKd x_4.toInt x_5.toInt x_6.toInt) → ∀ (H : Heap) (locs : List Loc) (ls : Array Slot), ((401 - x_3.toInt).toNat) < kf → va_P g.1 vwCl (List.flatten [bLT g lt ta lo, bTape g ta ab sz ln x_4 x_5 x_6 x_7 fb, bLaw g lo lc x_8 ll lm lg ld fc_9]) H → va_D A (List.flatten [bLT g lt ta lo, bTape g ta ab sz ln x_4 x_5 x_6 x_7 fb, bLaw g lo lc x_8 ll lm lg ld fc_9]) → va_S A s.heap H locs → lv_has ls 5 [(0, .ref lt), (1, .int 6), (2, .int x_1), (3, .int x_2), (4, .int x_3)] → W p l e ({ frames := 7, cells := 0, slots := 0, locals := 152 } : Room) s m args below meth c H locs (0) (0) (zF g (fun u : Int32 × Int32 × Int32 × Int32 × Int32 × (Nat → Int32) × Int32 => (fun (kd2 : Int32) (bg2 : Int32) (nx2 : Int32) (ft2 : Int32) (lz2 : Int32) (fc2 : Nat → Int32) (q : Int32) => some (.int q)) (u.1) (u.2.1) (u.2.2.1) (u.2.2.2.1) (u.2.2.2.2.1) (u.2.2.2.2.2.1) (u.2.2.2.2.2.2)) (fun u : Int32 × Int32 × Int32 × Int32 × Int32 × (Nat → Int32) × Int32 => (fun (kd2 : Int32) (bg2 : Int32) (nx2 : Int32) (ft2 : Int32) (lz2 : Int32) (fc2 : Nat → Int32) (q : Int32) => (0 ≤ lz2.toInt ∧ lz2.toInt ≤ 400) ∧ (-1 ≤ ft2.toInt) ∧ (0 ≤ nx2.toInt ∧ nx2.toInt ≤ 400) ∧ (0 ≤ bg2.toInt ∧ bg2.toInt ≤ 400) ∧ (zKd kd2.toInt bg2.toInt nx2.toInt) ∧ (q = 0 ∨ q = 1)) (u.1) (u.2.1) (u.2.2.1) (u.2.2.2.1) (u.2.2.2.2.1) (u.2.2.2.2.2.1) (u.2.2.2.2.2.2)) (fun u : Int32 × Int32 × Int32 × Int32 × Int32 × (Nat → Int32) × Int32 => (fun (kd2 : Int32) (bg2 : Int32) (nx2 : Int32) (ft2 : Int32) (lz2 : Int32) (fc2 : Nat → Int32) (q : Int32) => [bLT g lt ta lo, bTape g ta ab sz ln kd2 bg2 nx2 ft2 fb, bLaw g lo lc lz2 ll lm lg ld fc2]) (u.1) (u.2.1) (u.2.2.1) (u.2.2.2.1) (u.2.2.2.2.1) (u.2.2.2.2.2.1) (u.2.2.2.2.2.2)) ({ frames := 7, cells := 0, slots := 0, locals := 152 } : Room) below args s A) (F0 m 7 ls []) := by
    intro kf
    induction kf with
    | zero => intro x_1 x_2 x_3 x_4 x_5 x_6 x_7 x_8 fc_9 i10 i11 i12 i13 i14 i15 H locs ls hk; exact absurd hk (Nat.not_lt_zero _)
    | succ kf ih7_17 =>
      intro x_1 x_2 x_3 x_4 x_5 x_6 x_7 x_8 fc_9 i10 i11 i12 i13 i14 i15 H locs ls hk7_17 hP hD hS hl
      refine lv_iload hx hb dX2_readCondition_7 (lv_at hl 4 rfl) ?_
      refine lv_sipush (v := 400) hx hb dX2_readCondition_9 (by decide) ?_
      refine lv_icmp_ge (tgt := 100) hx hb dX2_readCondition_12 (by decide) (fun cb9 => ?_) (fun cb9 => ?_)
      · skip
        have c18 : 400 ≤ x_3.toInt := zle cb9 (by decide) rfl
        have n19 : 400 ≤ x_3.toInt := Int.le_trans (Int.le_refl _) c18
        refine lv_aload_n hx hb dX2_readCondition_100 rfl (lv_at hl 0 rfl) ?_
        refine va_get (D := g.1) (ci := 2) (v := .ref ta) (C := RX2) (T := TX2) (N := 2) hx hb hts izRX2 hown hK hP 0 rfl rfl 0 (by decide) (hts _ k290) (fun x9 h9 => u_same (hts _ k291) x9 h9) rfl dX2_readCondition_101 ?_
        refine mcallV' (g := g) (q0 := 0) (ci := 6) (As := []) (rest := []) St hK hT hA hP hD hS hl.1 [1] [0, 2] rfl rfl rfl (c_t_refuse l g ta ab sz ln x_4 x_5 x_6 x_7 fb hln i12 i11 i15 i13) (cwV 0 hts (zgL (zl4 k303 k279 k280 k277) k269) rfl rfl rfl (by decide +kernel) ⟨Nat.le_of_ble_eq_true rfl, Nat.le_of_ble_eq_true rfl⟩) rfl rfl rfl rfl (Nat.le_of_ble_eq_true rfl) dX2_readCondition_104 ⟨(Nat.le_of_ble_eq_true rfl), (Nat.le_of_ble_eq_true rfl)⟩ (fun ft2_20 H locs hq21 hP hD hS => ?_)
        replace hq21 : (-1 ≤ ft2_20.toInt) := hq21
        have hP : va_P g.1 vwCl (List.flatten [bLT g lt ta lo, bLaw g lo lc x_8 ll lm lg ld fc_9, bTape g ta ab sz ln x_4 x_5 x_6 ft2_20 fb]) H := hP
        have hD : va_D A (List.flatten [bLT g lt ta lo, bLaw g lo lc x_8 ll lm lg ld fc_9, bTape g ta ab sz ln x_4 x_5 x_6 ft2_20 fb]) := hD
        refine W.widen (k := 0) (n := 0) (Nat.le_of_ble_eq_true rfl) (Nat.le_of_ble_eq_true rfl) ?_
        refine W.eq (g2 := F0 m 107 ls [.int 0]) rfl ?_
        have hP : va_P g.1 vwCl (List.flatten [bLT g lt ta lo, bLaw g lo lc x_8 ll lm lg ld fc_9, bTape g ta ab sz ln x_4 x_5 x_6 ft2_20 fb]) H := hP
        have hD : va_D A (List.flatten [bLT g lt ta lo, bLaw g lo lc x_8 ll lm lg ld fc_9, bTape g ta ab sz ln x_4 x_5 x_6 ft2_20 fb]) := hD
        obtain ⟨hP, hD⟩ := zord (g := g) (Bs' := [bLT g lt ta lo, bTape g ta ab sz ln x_4 x_5 x_6 ft2_20 fb, bLaw g lo lc x_8 ll lm lg ld fc_9]) [0, 2, 1] rfl rfl hP hD
        exact mret_z hx hb hr hlocks hS (Nat.le_of_ble_eq_true rfl) (Nat.le_of_ble_eq_true rfl) dX2_readCondition_107 (x_4, x_5, x_6, ft2_20, x_8, fc_9, (0 : Int32)) rfl (by decide) (show (0 ≤ x_8.toInt ∧ x_8.toInt ≤ 400) ∧ (-1 ≤ ft2_20.toInt) ∧ (0 ≤ x_6.toInt ∧ x_6.toInt ≤ 400) ∧ (0 ≤ x_5.toInt ∧ x_5.toInt ≤ 400) ∧ (zKd x_4.toInt x_5.toInt x_6.toInt) ∧ (0 = 0 ∨ 0 = 1) from ⟨i14, hq21, i12, i11, i15, (by decide)⟩) hP hD
      · skip
        have c22 : x_3.toInt < 400 := zlti (Int32.not_le.mp cb9) rfl (by decide)
        have n23 : x_3.toInt ≤ 399 := zL1 (b := 400) c22 (Int.le_refl _) (by decide)
        refine lv_aload_n hx hb dX2_readCondition_15 rfl (lv_at hl 0 rfl) ?_
        refine lv_iload_n hx hb dX2_readCondition_16 rfl (lv_at hl 1 rfl) ?_
        refine mcallV' (g := g) (q0 := 0) (ci := 2) (As := [.int 6]) (rest := []) St hK hT hA hP hD hS hl.1 [0, 1, 2] [] rfl rfl rfl (c_lt_readAtom6 l g lt ta lo ab sz ln x_4 x_5 x_6 x_7 fb lc x_8 ll lm lg ld fc_9 i14 hln i12 i11 i15 i13) (cwV 1 hts (zgL (zl4 k317 k318 k319 k309) k327) rfl rfl rfl (by decide +kernel) ⟨Nat.le_of_ble_eq_true rfl, Nat.le_of_ble_eq_true rfl⟩) rfl rfl rfl rfl (Nat.le_of_ble_eq_true rfl) dX2_readCondition_17 ⟨(Nat.le_of_ble_eq_true rfl), (Nat.le_of_ble_eq_true rfl)⟩ (fun u_ H locs hq31 hP hD hS => ?_)
        obtain ⟨kd2_24, bg2_25, nx2_26, ft2_27, lz2_28, fc2_29, q_30⟩ := u_
        replace hq31 : (0 ≤ lz2_28.toInt ∧ lz2_28.toInt ≤ 400) ∧ (-1 ≤ ft2_27.toInt) ∧ (0 ≤ nx2_26.toInt ∧ nx2_26.toInt ≤ 400) ∧ (0 ≤ bg2_25.toInt ∧ bg2_25.toInt ≤ 400) ∧ (zKd kd2_24.toInt bg2_25.toInt nx2_26.toInt) ∧ (q_30 = 0 ∨ q_30 = 1) := hq31
        have hP : va_P g.1 vwCl (List.flatten [bLT g lt ta lo, bTape g ta ab sz ln kd2_24 bg2_25 nx2_26 ft2_27 fb, bLaw g lo lc lz2_28 ll lm lg ld fc2_29]) H := hP
        have hD : va_D A (List.flatten [bLT g lt ta lo, bTape g ta ab sz ln kd2_24 bg2_25 nx2_26 ft2_27 fb, bLaw g lo lc lz2_28 ll lm lg ld fc2_29]) := hD
        refine W.widen (k := 0) (n := 0) (Nat.le_of_ble_eq_true rfl) (Nat.le_of_ble_eq_true rfl) ?_
        refine W.eq (g2 := F0 m 20 ls [.int q_30]) rfl ?_
        obtain ⟨hq31_0, hq31_1, hq31_2, hq31_3, hq31_4, hq31_5⟩ := hq31
        rcases hq31_5 with rfl | rfl
        · skip
          refine lv_if_ne (tgt := 25) hx hb dX2_readCondition_20 (by decide) (fun c32 => absurd (by decide) c32) (fun _ => ?_)
          refine lv_iconst (v := 0) hx hb dX2_readCondition_23 (by decide) ?_
          have hP : va_P g.1 vwCl (List.flatten [bLT g lt ta lo, bTape g ta ab sz ln kd2_24 bg2_25 nx2_26 ft2_27 fb, bLaw g lo lc lz2_28 ll lm lg ld fc2_29]) H := hP
          have hD : va_D A (List.flatten [bLT g lt ta lo, bTape g ta ab sz ln kd2_24 bg2_25 nx2_26 ft2_27 fb, bLaw g lo lc lz2_28 ll lm lg ld fc2_29]) := hD
          exact mret_z hx hb hr hlocks hS (Nat.le_of_ble_eq_true rfl) (Nat.le_of_ble_eq_true rfl) dX2_readCondition_24 (kd2_24, bg2_25, nx2_26, ft2_27, lz2_28, fc2_29, (0 : Int32)) rfl (by decide) (show (0 ≤ lz2_28.toInt ∧ lz2_28.toInt ≤ 400) ∧ (-1 ≤ ft2_27.toInt) ∧ (0 ≤ nx2_26.toInt ∧ nx2_26.toInt ≤ 400) ∧ (0 ≤ bg2_25.toInt ∧ bg2_25.toInt ≤ 400) ∧ (zKd kd2_24.toInt bg2_25.toInt nx2_26.toInt) ∧ (0 = 0 ∨ 0 = 1) from ⟨hq31_0, hq31_1, hq31_2, hq31_3, hq31_4, (by decide)⟩) hP hD
        · skip
          refine lv_if_ne (tgt := 25) hx hb dX2_readCondition_20 (by decide) (fun _ => ?_) (fun c33 => absurd c33 (by decide))
          refine lv_aload_n hx hb dX2_readCondition_25 rfl (lv_at hl 0 rfl) ?_
          refine va_get (D := g.1) (ci := 2) (v := .ref lo) (C := RX2) (T := TX2) (N := 2) hx hb hts izRX2 hown hK hP 0 rfl rfl 1 (by decide) (hts _ k210) (fun _ h9 => h9) rfl dX2_readCondition_26 ?_
          refine lv_iload_n hx hb dX2_readCondition_29 rfl (lv_at hl 3 rfl) ?_
          refine mcallV' (g := g) (q0 := 0) (ci := 1) (As := [.int x_2]) (rest := []) St hK hT hA hP hD hS hl.1 [2] [0, 1] rfl rfl rfl (c_l_aim l g lo lc lz2_28 ll lm lg ld fc2_29 x_2 hq31_0) (cwV 1 hts (zgL (zl4 k320 k321 k322 k85) k203) rfl rfl rfl (by decide +kernel) ⟨Nat.le_of_ble_eq_true rfl, Nat.le_of_ble_eq_true rfl⟩) rfl rfl rfl rfl (Nat.le_of_ble_eq_true rfl) dX2_readCondition_30 ⟨(Nat.le_of_ble_eq_true rfl), (Nat.le_of_ble_eq_true rfl)⟩ (fun fc2_34 H locs hq35 hP hD hS => ?_)
          have hP : va_P g.1 vwCl (List.flatten [bLT g lt ta lo, bTape g ta ab sz ln kd2_24 bg2_25 nx2_26 ft2_27 fb, bLaw g lo lc lz2_28 ll lm lg ld fc2_34]) H := hP
          have hD : va_D A (List.flatten [bLT g lt ta lo, bTape g ta ab sz ln kd2_24 bg2_25 nx2_26 ft2_27 fb, bLaw g lo lc lz2_28 ll lm lg ld fc2_34]) := hD
          refine W.widen (k := 0) (n := 0) (Nat.le_of_ble_eq_true rfl) (Nat.le_of_ble_eq_true rfl) ?_
          refine W.eq (g2 := F0 m 33 ls []) rfl ?_
          refine lv_iconst (v := (-1)) hx hb dX2_readCondition_33 (by decide) ?_
          refine lv_istore_n (lv' := [(3, .int (-1)), (0, .ref lt), (1, .int 6), (2, .int x_1), (4, .int x_3)]) hx hb dX2_readCondition_34 rfl hl (by decide) rfl (fun ls hl => ?_)
          refine lv_aload_n hx hb dX2_readCondition_35 rfl (lv_at hl 1 rfl) ?_
          refine va_get (D := g.1) (ci := 2) (v := .ref ta) (C := RX2) (T := TX2) (N := 2) hx hb hts izRX2 hown hK hP 0 rfl rfl 0 (by decide) (hts _ k290) (fun x9 h9 => u_same (hts _ k291) x9 h9) rfl dX2_readCondition_36 ?_
          refine va_ldcS (q := g.2 16) hx hb hown (zra3 hT.2.1) dX2_readCondition_39 ?_
          refine mcallV' (g := g) (q0 := 0) (ci := 6) (As := [.ref (g.2 16)]) (rest := []) St hK hT hA hP hD hS hl.1 [1] [0, 2] rfl rfl rfl (c_t_takeWord l g ta ab sz ln kd2_24 bg2_25 nx2_26 ft2_27 fb (g.2 16) 3 zqa3 hln hq31_2 hq31_3 hq31_4 hq31_1 rfl zla3 zna3) (cwV 1 hts (zgL (zl4 k310 k311 k312 k277) k284) rfl rfl rfl (by decide +kernel) ⟨Nat.le_of_ble_eq_true rfl, Nat.le_of_ble_eq_true rfl⟩) rfl rfl rfl rfl (Nat.le_of_ble_eq_true rfl) dX2_readCondition_41 ⟨(Nat.le_of_ble_eq_true rfl), (Nat.le_of_ble_eq_true rfl)⟩ (fun u_ H locs hq40 hP hD hS => ?_)
          obtain ⟨kd2_36, bg2_37, nx2_38, r_39⟩ := u_
          replace hq40 : (0 ≤ nx2_38.toInt ∧ nx2_38.toInt ≤ 400) ∧ (0 ≤ bg2_37.toInt ∧ bg2_37.toInt ≤ 400) ∧ (zKd kd2_36.toInt bg2_37.toInt nx2_38.toInt) ∧ (r_39 = 0 ∨ r_39 = 1) := hq40
          have hP : va_P g.1 vwCl (List.flatten [bLT g lt ta lo, bLaw g lo lc lz2_28 ll lm lg ld fc2_34, bTape g ta ab sz ln kd2_36 bg2_37 nx2_38 ft2_27 fb]) H := hP
          have hD : va_D A (List.flatten [bLT g lt ta lo, bLaw g lo lc lz2_28 ll lm lg ld fc2_34, bTape g ta ab sz ln kd2_36 bg2_37 nx2_38 ft2_27 fb]) := hD
          refine W.widen (k := 0) (n := 0) (Nat.le_of_ble_eq_true rfl) (Nat.le_of_ble_eq_true rfl) ?_
          refine W.eq (g2 := F0 m 44 ls [.int r_39]) rfl ?_
          obtain ⟨hq40_0, hq40_1, hq40_2, hq40_3⟩ := hq40
          rcases hq40_3 with rfl | rfl
          · skip
            refine lv_if_eq (tgt := 61) hx hb dX2_readCondition_44 (by decide) (fun _ => ?_) (fun c41 => absurd (by decide) c41)
            refine lv_aload_n hx hb dX2_readCondition_61 rfl (lv_at hl 1 rfl) ?_
            refine va_get (D := g.1) (ci := 2) (v := .ref lo) (C := RX2) (T := TX2) (N := 2) hx hb hts izRX2 hown hK hP 0 rfl rfl 1 (by decide) (hts _ k210) (fun _ h9 => h9) rfl dX2_readCondition_62 ?_
            refine lv_iload_n hx hb dX2_readCondition_65 rfl (lv_at hl 3 rfl) ?_
            refine mcallV' (g := g) (q0 := 0) (ci := 1) (As := [.int x_1]) (rest := []) St hK hT hA hP hD hS hl.1 [1] [0, 2] rfl rfl rfl (c_l_aim l g lo lc lz2_28 ll lm lg ld fc2_34 x_1 hq31_0) (cwV 1 hts (zgL (zl4 k320 k321 k322 k85) k203) rfl rfl rfl (by decide +kernel) ⟨Nat.le_of_ble_eq_true rfl, Nat.le_of_ble_eq_true rfl⟩) rfl rfl rfl rfl (Nat.le_of_ble_eq_true rfl) dX2_readCondition_66 ⟨(Nat.le_of_ble_eq_true rfl), (Nat.le_of_ble_eq_true rfl)⟩ (fun fc2_42 H locs hq43 hP hD hS => ?_)
            have hP : va_P g.1 vwCl (List.flatten [bLT g lt ta lo, bTape g ta ab sz ln kd2_36 bg2_37 nx2_38 ft2_27 fb, bLaw g lo lc lz2_28 ll lm lg ld fc2_42]) H := hP
            have hD : va_D A (List.flatten [bLT g lt ta lo, bTape g ta ab sz ln kd2_36 bg2_37 nx2_38 ft2_27 fb, bLaw g lo lc lz2_28 ll lm lg ld fc2_42]) := hD
            refine W.widen (k := 0) (n := 0) (Nat.le_of_ble_eq_true rfl) (Nat.le_of_ble_eq_true rfl) ?_
            refine W.eq (g2 := F0 m 69 ls []) rfl ?_
            refine lv_aload_n hx hb dX2_readCondition_69 rfl (lv_at hl 1 rfl) ?_
            refine va_get (D := g.1) (ci := 2) (v := .ref ta) (C := RX2) (T := TX2) (N := 2) hx hb hts izRX2 hown hK hP 0 rfl rfl 0 (by decide) (hts _ k290) (fun x9 h9 => u_same (hts _ k291) x9 h9) rfl dX2_readCondition_70 ?_
            refine va_ldcS (q := g.2 18) hx hb hown (zra4 hT.2.1) dX2_readCondition_73 ?_
            refine mcallV' (g := g) (q0 := 0) (ci := 6) (As := [.ref (g.2 18)]) (rest := []) St hK hT hA hP hD hS hl.1 [1] [0, 2] rfl rfl rfl (c_t_takeWord l g ta ab sz ln kd2_36 bg2_37 nx2_38 ft2_27 fb (g.2 18) 4 zqa4 hln hq40_0 hq40_1 hq40_2 hq31_1 rfl zla4 zna4) (cwV 1 hts (zgL (zl4 k310 k311 k312 k277) k284) rfl rfl rfl (by decide +kernel) ⟨Nat.le_of_ble_eq_true rfl, Nat.le_of_ble_eq_true rfl⟩) rfl rfl rfl rfl (Nat.le_of_ble_eq_true rfl) dX2_readCondition_75 ⟨(Nat.le_of_ble_eq_true rfl), (Nat.le_of_ble_eq_true rfl)⟩ (fun u_ H locs hq48 hP hD hS => ?_)
            obtain ⟨kd2_44, bg2_45, nx2_46, r_47⟩ := u_
            replace hq48 : (0 ≤ nx2_46.toInt ∧ nx2_46.toInt ≤ 400) ∧ (0 ≤ bg2_45.toInt ∧ bg2_45.toInt ≤ 400) ∧ (zKd kd2_44.toInt bg2_45.toInt nx2_46.toInt) ∧ (r_47 = 0 ∨ r_47 = 1) := hq48
            have hP : va_P g.1 vwCl (List.flatten [bLT g lt ta lo, bLaw g lo lc lz2_28 ll lm lg ld fc2_42, bTape g ta ab sz ln kd2_44 bg2_45 nx2_46 ft2_27 fb]) H := hP
            have hD : va_D A (List.flatten [bLT g lt ta lo, bLaw g lo lc lz2_28 ll lm lg ld fc2_42, bTape g ta ab sz ln kd2_44 bg2_45 nx2_46 ft2_27 fb]) := hD
            refine W.widen (k := 0) (n := 0) (Nat.le_of_ble_eq_true rfl) (Nat.le_of_ble_eq_true rfl) ?_
            refine W.eq (g2 := F0 m 78 ls [.int r_47]) rfl ?_
            obtain ⟨hq48_0, hq48_1, hq48_2, hq48_3⟩ := hq48
            rcases hq48_3 with rfl | rfl
            · skip
              refine lv_if_ne (tgt := 83) hx hb dX2_readCondition_78 (by decide) (fun c49 => absurd (by decide) c49) (fun _ => ?_)
              refine lv_iconst (v := 1) hx hb dX2_readCondition_81 (by decide) ?_
              have hP : va_P g.1 vwCl (List.flatten [bLT g lt ta lo, bLaw g lo lc lz2_28 ll lm lg ld fc2_42, bTape g ta ab sz ln kd2_44 bg2_45 nx2_46 ft2_27 fb]) H := hP
              have hD : va_D A (List.flatten [bLT g lt ta lo, bLaw g lo lc lz2_28 ll lm lg ld fc2_42, bTape g ta ab sz ln kd2_44 bg2_45 nx2_46 ft2_27 fb]) := hD
              obtain ⟨hP, hD⟩ := zord (g := g) (Bs' := [bLT g lt ta lo, bTape g ta ab sz ln kd2_44 bg2_45 nx2_46 ft2_27 fb, bLaw g lo lc lz2_28 ll lm lg ld fc2_42]) [0, 2, 1] rfl rfl hP hD
              exact mret_z hx hb hr hlocks hS (Nat.le_of_ble_eq_true rfl) (Nat.le_of_ble_eq_true rfl) dX2_readCondition_82 (kd2_44, bg2_45, nx2_46, ft2_27, lz2_28, fc2_42, (1 : Int32)) rfl (by decide) (show (0 ≤ lz2_28.toInt ∧ lz2_28.toInt ≤ 400) ∧ (-1 ≤ ft2_27.toInt) ∧ (0 ≤ nx2_46.toInt ∧ nx2_46.toInt ≤ 400) ∧ (0 ≤ bg2_45.toInt ∧ bg2_45.toInt ≤ 400) ∧ (zKd kd2_44.toInt bg2_45.toInt nx2_46.toInt) ∧ (1 = 0 ∨ 1 = 1) from ⟨hq31_0, hq31_1, hq48_0, hq48_1, hq48_2, (by decide)⟩) hP hD
            · skip
              refine lv_if_ne (tgt := 83) hx hb dX2_readCondition_78 (by decide) (fun _ => ?_) (fun c50 => absurd c50 (by decide))
              refine lv_aload_n hx hb dX2_readCondition_83 rfl (lv_at hl 1 rfl) ?_
              refine va_get (D := g.1) (ci := 2) (v := .ref lo) (C := RX2) (T := TX2) (N := 2) hx hb hts izRX2 hown hK hP 0 rfl rfl 1 (by decide) (hts _ k210) (fun _ h9 => h9) rfl dX2_readCondition_84 ?_
              refine lv_bipush (v := 14) hx hb dX2_readCondition_87 (by decide) ?_
              refine lv_iconst (v := 0) hx hb dX2_readCondition_89 (by decide) ?_
              refine mcallV' (g := g) (q0 := 0) (ci := 1) (As := [.int 14, .int 0]) (rest := []) St hK hT hA hP hD hS hl.1 [1] [0, 2] rfl rfl rfl (c_l_put l g lo lc lz2_28 ll lm lg ld fc2_42 14 0 hq31_0) (cwV 2 hts (zgL (zl4 k297 k298 k299 k85) k202) rfl rfl rfl (by decide +kernel) ⟨Nat.le_of_ble_eq_true rfl, Nat.le_of_ble_eq_true rfl⟩) rfl rfl rfl rfl (Nat.le_of_ble_eq_true rfl) dX2_readCondition_90 ⟨(Nat.le_of_ble_eq_true rfl), (Nat.le_of_ble_eq_true rfl)⟩ (fun u_ H locs hq54 hP hD hS => ?_)
              obtain ⟨lz2_51, fc2_52, q_53⟩ := u_
              replace hq54 : (0 ≤ lz2_51.toInt ∧ lz2_51.toInt ≤ 400) := hq54
              have hP : va_P g.1 vwCl (List.flatten [bLT g lt ta lo, bTape g ta ab sz ln kd2_44 bg2_45 nx2_46 ft2_27 fb, bLaw g lo lc lz2_51 ll lm lg ld fc2_52]) H := hP
              have hD : va_D A (List.flatten [bLT g lt ta lo, bTape g ta ab sz ln kd2_44 bg2_45 nx2_46 ft2_27 fb, bLaw g lo lc lz2_51 ll lm lg ld fc2_52]) := hD
              refine W.widen (k := 0) (n := 0) (Nat.le_of_ble_eq_true rfl) (Nat.le_of_ble_eq_true rfl) ?_
              refine W.eq (g2 := F0 m 93 ls [.int q_53]) rfl ?_
              refine lv_istore_n (lv' := [(2, .int q_53), (3, .int (-1)), (0, .ref lt), (1, .int 6), (4, .int x_3)]) hx hb dX2_readCondition_93 rfl hl (by decide) rfl (fun ls hl => ?_)
              refine ziinc3 (n' := 1) (a' := 1) (b' := 400) (lv' := fun v9 => [(4, .int v9), (2, .int q_53), (3, .int (-1)), (0, .ref lt), (1, .int 6)]) hx hb dX2_readCondition_94 hl (k := 4) rfl (by decide) (fun _ => rfl) (zaddK (i := x_3.toInt) (j := 1) rfl (by decide) i10.1 n23 (Int.le_refl _) (Int.le_refl _) (by decide)) (fun x_55 ls hx_55 hl => ?_)
              refine lv_goto (tgt := 7) hx hb dX2_readCondition_97 (by decide) ?_
              have hl := lv_sub (l' := [(0, .ref lt), (1, .int 6), (2, .int q_53), (3, .int (-1)), (4, .int x_55)]) hl [3, 4, 1, 2, 0] rfl
              have hLn1 : ((-1) : Int32).toInt = (-1) := by decide
              have hP : va_P g.1 vwCl (List.flatten [bLT g lt ta lo, bTape g ta ab sz ln kd2_44 bg2_45 nx2_46 ft2_27 fb, bLaw g lo lc lz2_51 ll lm lg ld fc2_52]) H := hP
              have hD : va_D A (List.flatten [bLT g lt ta lo, bTape g ta ab sz ln kd2_44 bg2_45 nx2_46 ft2_27 fb, bLaw g lo lc lz2_51 ll lm lg ld fc2_52]) := hD
              exact ih7_17 q_53 (-1) x_55 kd2_44 bg2_45 nx2_46 ft2_27 lz2_51 fc2_52 ⟨(Int.le_trans (by decide) hx_55.2.1), hx_55.2.2⟩ ⟨hq48_1.1, hq48_1.2⟩ ⟨hq48_0.1, hq48_0.2⟩ (by first | omega | assumption | decide) ⟨hq54.1, hq54.2⟩ hq48_2 H _ ls (zmK hx_55.1 (by decide) n23 (by decide) hk7_17)  hP hD hS (lv_sub hl [0, 1, 2, 3, 4] rfl)
          · skip
            refine lv_if_eq (tgt := 61) hx hb dX2_readCondition_44 (by decide) (fun c56 => absurd c56 (by decide)) (fun _ => ?_)
            refine lv_aload_n hx hb dX2_readCondition_47 rfl (lv_at hl 1 rfl) ?_
            refine va_get (D := g.1) (ci := 2) (v := .ref lo) (C := RX2) (T := TX2) (N := 2) hx hb hts izRX2 hown hK hP 0 rfl rfl 1 (by decide) (hts _ k210) (fun _ h9 => h9) rfl dX2_readCondition_48 ?_
            refine lv_bipush (v := 13) hx hb dX2_readCondition_51 (by decide) ?_
            refine lv_iconst (v := 0) hx hb dX2_readCondition_53 (by decide) ?_
            refine mcallV' (g := g) (q0 := 0) (ci := 1) (As := [.int 13, .int 0]) (rest := []) St hK hT hA hP hD hS hl.1 [1] [0, 2] rfl rfl rfl (c_l_put l g lo lc lz2_28 ll lm lg ld fc2_34 13 0 hq31_0) (cwV 2 hts (zgL (zl4 k297 k298 k299 k85) k202) rfl rfl rfl (by decide +kernel) ⟨Nat.le_of_ble_eq_true rfl, Nat.le_of_ble_eq_true rfl⟩) rfl rfl rfl rfl (Nat.le_of_ble_eq_true rfl) dX2_readCondition_54 ⟨(Nat.le_of_ble_eq_true rfl), (Nat.le_of_ble_eq_true rfl)⟩ (fun u_ H locs hq60 hP hD hS => ?_)
            obtain ⟨lz2_57, fc2_58, q_59⟩ := u_
            replace hq60 : (0 ≤ lz2_57.toInt ∧ lz2_57.toInt ≤ 400) := hq60
            have hP : va_P g.1 vwCl (List.flatten [bLT g lt ta lo, bTape g ta ab sz ln kd2_36 bg2_37 nx2_38 ft2_27 fb, bLaw g lo lc lz2_57 ll lm lg ld fc2_58]) H := hP
            have hD : va_D A (List.flatten [bLT g lt ta lo, bTape g ta ab sz ln kd2_36 bg2_37 nx2_38 ft2_27 fb, bLaw g lo lc lz2_57 ll lm lg ld fc2_58]) := hD
            refine W.widen (k := 0) (n := 0) (Nat.le_of_ble_eq_true rfl) (Nat.le_of_ble_eq_true rfl) ?_
            refine W.eq (g2 := F0 m 57 ls [.int q_59]) rfl ?_
            refine lv_istore_n (lv' := [(3, .int q_59), (0, .ref lt), (1, .int 6), (2, .int x_1), (4, .int x_3)]) hx hb dX2_readCondition_57 rfl hl (by decide) rfl (fun ls hl => ?_)
            refine lv_goto (tgt := 94) hx hb dX2_readCondition_58 (by decide) ?_
            refine ziinc3 (n' := 1) (a' := 1) (b' := 400) (lv' := fun v9 => [(4, .int v9), (3, .int q_59), (0, .ref lt), (1, .int 6), (2, .int x_1)]) hx hb dX2_readCondition_94 hl (k := 4) rfl (by decide) (fun _ => rfl) (zaddK (i := x_3.toInt) (j := 1) rfl (by decide) i10.1 n23 (Int.le_refl _) (Int.le_refl _) (by decide)) (fun x_61 ls hx_61 hl => ?_)
            refine lv_goto (tgt := 7) hx hb dX2_readCondition_97 (by decide) ?_
            have hl := lv_sub (l' := [(0, .ref lt), (1, .int 6), (2, .int x_1), (3, .int q_59), (4, .int x_61)]) hl [2, 3, 4, 1, 0] rfl
            have hP : va_P g.1 vwCl (List.flatten [bLT g lt ta lo, bTape g ta ab sz ln kd2_36 bg2_37 nx2_38 ft2_27 fb, bLaw g lo lc lz2_57 ll lm lg ld fc2_58]) H := hP
            have hD : va_D A (List.flatten [bLT g lt ta lo, bTape g ta ab sz ln kd2_36 bg2_37 nx2_38 ft2_27 fb, bLaw g lo lc lz2_57 ll lm lg ld fc2_58]) := hD
            exact ih7_17 x_1 q_59 x_61 kd2_36 bg2_37 nx2_38 ft2_27 lz2_57 fc2_58 ⟨(Int.le_trans (by decide) hx_61.2.1), hx_61.2.2⟩ ⟨hq40_1.1, hq40_1.2⟩ ⟨hq40_0.1, hq40_0.2⟩ (by first | omega | assumption | decide) ⟨hq60.1, hq60.2⟩ hq40_2 H _ ls (zmK hx_61.1 (by decide) n23 (by decide) hk7_17)  hP hD hS (lv_sub hl [0, 1, 2, 3, 4] rfl)
  have hLn1 : ((-1) : Int32).toInt = (-1) := by decide
  have hL0 : (0 : Int32).toInt = 0 := by decide
  have hP : va_P g.1 vwCl (List.flatten [bLT g lt ta lo, bTape g ta ab sz ln kd bg nx ft fb, bLaw g lo lc lz ll lm lg ld fc]) s.heap := hP
  have hD : va_D A (List.flatten [bLT g lt ta lo, bTape g ta ab sz ln kd bg nx ft fb, bLaw g lo lc lz ll lm lg ld fc]) := hD
  exact LP7_16 _ (-1) (-1) 0 kd bg nx ft lz fc (by decide) ⟨hbg.1, hbg.2⟩ ⟨hnx.1, hnx.2⟩ (by first | omega | assumption | decide) ⟨b_lz.1, b_lz.2⟩ hkd s.heap _ ls (Nat.lt_succ_self _)  hP hD hS (lv_sub hl [0, 1, 2, 3, 4] rfl)
set_option maxRecDepth 100000 in
set_option maxHeartbeats 4000000 in
theorem c_lt_readDeeper6 (l : Launch) (g : zG) (lt : Nat) (ta : Nat) (lo : Nat) (ab : Nat) (sz : Int32) (ln : Int32) (kd : Int32) (bg : Int32) (nx : Int32) (ft : Int32) (fb : Nat → Int32) (lc : Nat) (lz : Int32) (ll : Int32) (lm : Int32) (lg : Int32) (ld : Int32) (fc : Nat → Int32) (b_lz : 0 ≤ lz.toInt ∧ lz.toInt ≤ 400) (hln : 0 ≤ ln.toInt ∧ ln.toInt ≤ 400) (hnx : 0 ≤ nx.toInt ∧ nx.toInt ≤ 400) (hbg : 0 ≤ bg.toInt ∧ bg.toInt ≤ 400) (hkd : zKd kd.toInt bg.toInt nx.toInt) (hft : -1 ≤ ft.toInt) : zM' g l yX2_readDeeper (Cond.code yX2_readDeeper cX2_readDeeper 2 (some .boolean) :: zB) ({ frames := 8, cells := 0, slots := 0, locals := 176 } : Room) [.ref lt, .int 6] [bLT g lt ta lo, bTape g ta ab sz ln kd bg nx ft fb, bLaw g lo lc lz ll lm lg ld fc] (fun u : Int32 × Int32 × Int32 × Int32 × Int32 × (Nat → Int32) × Int32 => (fun (kd2 : Int32) (bg2 : Int32) (nx2 : Int32) (ft2 : Int32) (lz2 : Int32) (fc2 : Nat → Int32) (q : Int32) => some (.int q)) (u.1) (u.2.1) (u.2.2.1) (u.2.2.2.1) (u.2.2.2.2.1) (u.2.2.2.2.2.1) (u.2.2.2.2.2.2)) (fun u : Int32 × Int32 × Int32 × Int32 × Int32 × (Nat → Int32) × Int32 => (fun (kd2 : Int32) (bg2 : Int32) (nx2 : Int32) (ft2 : Int32) (lz2 : Int32) (fc2 : Nat → Int32) (q : Int32) => (0 ≤ lz2.toInt ∧ lz2.toInt ≤ 400) ∧ (-1 ≤ ft2.toInt) ∧ (0 ≤ nx2.toInt ∧ nx2.toInt ≤ 400) ∧ (0 ≤ bg2.toInt ∧ bg2.toInt ≤ 400) ∧ (zKd kd2.toInt bg2.toInt nx2.toInt) ∧ (q = 0 ∨ q = 1)) (u.1) (u.2.1) (u.2.2.1) (u.2.2.2.1) (u.2.2.2.2.1) (u.2.2.2.2.2.1) (u.2.2.2.2.2.2)) (fun u : Int32 × Int32 × Int32 × Int32 × Int32 × (Nat → Int32) × Int32 => (fun (kd2 : Int32) (bg2 : Int32) (nx2 : Int32) (ft2 : Int32) (lz2 : Int32) (fc2 : Nat → Int32) (q : Int32) => [bLT g lt ta lo, bTape g ta ab sz ln kd2 bg2 nx2 ft2 fb, bLaw g lo lc lz2 ll lm lg ld fc2]) (u.1) (u.2.1) (u.2.2.1) (u.2.2.2.1) (u.2.2.2.2.1) (u.2.2.2.2.2.1) (u.2.2.2.2.2.2)) := by
  refine zM'.of (cc := cX2_readDeeper) (maxL := 2) (rt := (some .boolean)) (by decide) rfl (Nat.le_of_ble_eq_true rfl) ?_
  intro p e s m args below meth c A ls St hr hlocks hin hK hT hA hP hD hS hl
  obtain ⟨hx, hb, hml, hown, hts⟩ := id St
  have hl : lv_has ls 2 [(0, .ref lt), (1, .int 6)] := hl
  refine lv_aload_n hx hb dX2_readDeeper_0 rfl (lv_at hl 0 rfl) ?_
  refine va_get (D := g.1) (ci := 2) (v := .ref ta) (C := RX2) (T := TX2) (N := 2) hx hb hts izRX2 hown hK hP 0 rfl rfl 0 (by decide) (hts _ k290) (fun x9 h9 => u_same (hts _ k291) x9 h9) rfl dX2_readDeeper_1 ?_
  refine lv_bipush (v := 40) hx hb dX2_readDeeper_4 (by decide) ?_
  refine mcallV' (g := g) (q0 := 0) (ci := 6) (As := [.int 40]) (rest := []) St hK hT hA hP hD hS hl.1 [1] [0, 2] rfl rfl rfl (c_t_takeSign l g ta ab sz ln kd bg nx ft fb 40 hln hnx hbg hkd hft) (cwV 1 hts (zgL (zl4 k300 k301 k302 k277) k286) rfl rfl rfl (by decide +kernel) ⟨Nat.le_of_ble_eq_true rfl, Nat.le_of_ble_eq_true rfl⟩) rfl rfl rfl rfl (Nat.le_of_ble_eq_true rfl) dX2_readDeeper_6 ⟨(Nat.le_of_ble_eq_true rfl), (Nat.le_of_ble_eq_true rfl)⟩ (fun u_ H locs hq5 hP hD hS => ?_)
  obtain ⟨kd2_1, bg2_2, nx2_3, q_4⟩ := u_
  replace hq5 : (0 ≤ nx2_3.toInt ∧ nx2_3.toInt ≤ 400) ∧ (0 ≤ bg2_2.toInt ∧ bg2_2.toInt ≤ 400) ∧ (zKd kd2_1.toInt bg2_2.toInt nx2_3.toInt) ∧ (q_4 = 0 ∨ q_4 = 1) := hq5
  have hP : va_P g.1 vwCl (List.flatten [bLT g lt ta lo, bLaw g lo lc lz ll lm lg ld fc, bTape g ta ab sz ln kd2_1 bg2_2 nx2_3 ft fb]) H := hP
  have hD : va_D A (List.flatten [bLT g lt ta lo, bLaw g lo lc lz ll lm lg ld fc, bTape g ta ab sz ln kd2_1 bg2_2 nx2_3 ft fb]) := hD
  refine W.widen (k := 0) (n := 0) (Nat.le_of_ble_eq_true rfl) (Nat.le_of_ble_eq_true rfl) ?_
  refine W.eq (g2 := F0 m 9 ls [.int q_4]) rfl ?_
  obtain ⟨hq5_0, hq5_1, hq5_2, hq5_3⟩ := hq5
  rcases hq5_3 with rfl | rfl
  · skip
    refine lv_if_eq (tgt := 48) hx hb dX2_readDeeper_9 (by decide) (fun _ => ?_) (fun c6 => absurd (by decide) c6)
    refine lv_aload_n hx hb dX2_readDeeper_48 rfl (lv_at hl 0 rfl) ?_
    refine va_get (D := g.1) (ci := 2) (v := .ref ta) (C := RX2) (T := TX2) (N := 2) hx hb hts izRX2 hown hK hP 0 rfl rfl 0 (by decide) (hts _ k290) (fun x9 h9 => u_same (hts _ k291) x9 h9) rfl dX2_readDeeper_49 ?_
    refine mcallV' (g := g) (q0 := 0) (ci := 6) (As := []) (rest := []) St hK hT hA hP hD hS hl.1 [2] [0, 1] rfl rfl rfl (c_t_step l g ta ab sz ln kd2_1 bg2_2 nx2_3 ft fb hln hq5_0) (cwV 0 hts (zgL (zl4 k296 k275 k276 k277) k271) rfl rfl rfl (by decide +kernel) ⟨Nat.le_of_ble_eq_true rfl, Nat.le_of_ble_eq_true rfl⟩) rfl rfl rfl rfl (Nat.le_of_ble_eq_true rfl) dX2_readDeeper_52 ⟨(Nat.le_of_ble_eq_true rfl), (Nat.le_of_ble_eq_true rfl)⟩ (fun u_ H locs hq10 hP hD hS => ?_)
    obtain ⟨kd2_7, bg2_8, nx2_9⟩ := u_
    replace hq10 : (0 ≤ nx2_9.toInt ∧ nx2_9.toInt ≤ 400) ∧ (0 ≤ bg2_8.toInt ∧ bg2_8.toInt ≤ 400) ∧ (zKd kd2_7.toInt bg2_8.toInt nx2_9.toInt) := hq10
    have hP : va_P g.1 vwCl (List.flatten [bLT g lt ta lo, bLaw g lo lc lz ll lm lg ld fc, bTape g ta ab sz ln kd2_7 bg2_8 nx2_9 ft fb]) H := hP
    have hD : va_D A (List.flatten [bLT g lt ta lo, bLaw g lo lc lz ll lm lg ld fc, bTape g ta ab sz ln kd2_7 bg2_8 nx2_9 ft fb]) := hD
    refine W.widen (k := 0) (n := 0) (Nat.le_of_ble_eq_true rfl) (Nat.le_of_ble_eq_true rfl) ?_
    refine W.eq (g2 := F0 m 55 ls []) rfl ?_
    obtain ⟨hq10_0, hq10_1, hq10_2⟩ := hq10
    refine lv_aload_n hx hb dX2_readDeeper_55 rfl (lv_at hl 0 rfl) ?_
    refine lv_iload_n hx hb dX2_readDeeper_56 rfl (lv_at hl 1 rfl) ?_
    refine mcallV' (g := g) (q0 := 0) (ci := 2) (As := [.int 6]) (rest := []) St hK hT hA hP hD hS hl.1 [0, 2, 1] [] rfl rfl rfl (c_lt_readAtom6 l g lt ta lo ab sz ln kd2_7 bg2_8 nx2_9 ft fb lc lz ll lm lg ld fc b_lz hln hq10_0 hq10_1 hq10_2 hft) (cwV 1 hts (zgL (zl4 k317 k318 k319 k309) k327) rfl rfl rfl (by decide +kernel) ⟨Nat.le_of_ble_eq_true rfl, Nat.le_of_ble_eq_true rfl⟩) rfl rfl rfl rfl (Nat.le_of_ble_eq_true rfl) dX2_readDeeper_57 ⟨(Nat.le_of_ble_eq_true rfl), (Nat.le_of_ble_eq_true rfl)⟩ (fun u_ H locs hq18 hP hD hS => ?_)
    obtain ⟨kd2_11, bg2_12, nx2_13, ft2_14, lz2_15, fc2_16, q_17⟩ := u_
    replace hq18 : (0 ≤ lz2_15.toInt ∧ lz2_15.toInt ≤ 400) ∧ (-1 ≤ ft2_14.toInt) ∧ (0 ≤ nx2_13.toInt ∧ nx2_13.toInt ≤ 400) ∧ (0 ≤ bg2_12.toInt ∧ bg2_12.toInt ≤ 400) ∧ (zKd kd2_11.toInt bg2_12.toInt nx2_13.toInt) ∧ (q_17 = 0 ∨ q_17 = 1) := hq18
    have hP : va_P g.1 vwCl (List.flatten [bLT g lt ta lo, bTape g ta ab sz ln kd2_11 bg2_12 nx2_13 ft2_14 fb, bLaw g lo lc lz2_15 ll lm lg ld fc2_16]) H := hP
    have hD : va_D A (List.flatten [bLT g lt ta lo, bTape g ta ab sz ln kd2_11 bg2_12 nx2_13 ft2_14 fb, bLaw g lo lc lz2_15 ll lm lg ld fc2_16]) := hD
    refine W.widen (k := 0) (n := 0) (Nat.le_of_ble_eq_true rfl) (Nat.le_of_ble_eq_true rfl) ?_
    refine W.eq (g2 := F0 m 60 ls [.int q_17]) rfl ?_
    obtain ⟨hq18_0, hq18_1, hq18_2, hq18_3, hq18_4, hq18_5⟩ := hq18
    rcases hq18_5 with rfl | rfl
    · skip
      refine lv_if_ne (tgt := 65) hx hb dX2_readDeeper_60 (by decide) (fun c19 => absurd (by decide) c19) (fun _ => ?_)
      refine lv_iconst (v := 0) hx hb dX2_readDeeper_63 (by decide) ?_
      have hP : va_P g.1 vwCl (List.flatten [bLT g lt ta lo, bTape g ta ab sz ln kd2_11 bg2_12 nx2_13 ft2_14 fb, bLaw g lo lc lz2_15 ll lm lg ld fc2_16]) H := hP
      have hD : va_D A (List.flatten [bLT g lt ta lo, bTape g ta ab sz ln kd2_11 bg2_12 nx2_13 ft2_14 fb, bLaw g lo lc lz2_15 ll lm lg ld fc2_16]) := hD
      exact mret_z hx hb hr hlocks hS (Nat.le_of_ble_eq_true rfl) (Nat.le_of_ble_eq_true rfl) dX2_readDeeper_64 (kd2_11, bg2_12, nx2_13, ft2_14, lz2_15, fc2_16, (0 : Int32)) rfl (by decide) (show (0 ≤ lz2_15.toInt ∧ lz2_15.toInt ≤ 400) ∧ (-1 ≤ ft2_14.toInt) ∧ (0 ≤ nx2_13.toInt ∧ nx2_13.toInt ≤ 400) ∧ (0 ≤ bg2_12.toInt ∧ bg2_12.toInt ≤ 400) ∧ (zKd kd2_11.toInt bg2_12.toInt nx2_13.toInt) ∧ (0 = 0 ∨ 0 = 1) from ⟨hq18_0, hq18_1, hq18_2, hq18_3, hq18_4, (by decide)⟩) hP hD
    · skip
      refine lv_if_ne (tgt := 65) hx hb dX2_readDeeper_60 (by decide) (fun _ => ?_) (fun c20 => absurd c20 (by decide))
      refine lv_aload_n hx hb dX2_readDeeper_65 rfl (lv_at hl 0 rfl) ?_
      refine va_get (D := g.1) (ci := 2) (v := .ref lo) (C := RX2) (T := TX2) (N := 2) hx hb hts izRX2 hown hK hP 0 rfl rfl 1 (by decide) (hts _ k210) (fun _ h9 => h9) rfl dX2_readDeeper_66 ?_
      refine lv_bipush (v := 12) hx hb dX2_readDeeper_69 (by decide) ?_
      refine lv_iconst (v := 0) hx hb dX2_readDeeper_71 (by decide) ?_
      refine mcallV' (g := g) (q0 := 0) (ci := 1) (As := [.int 12, .int 0]) (rest := []) St hK hT hA hP hD hS hl.1 [2] [0, 1] rfl rfl rfl (c_l_put l g lo lc lz2_15 ll lm lg ld fc2_16 12 0 hq18_0) (cwV 2 hts (zgL (zl4 k297 k298 k299 k85) k202) rfl rfl rfl (by decide +kernel) ⟨Nat.le_of_ble_eq_true rfl, Nat.le_of_ble_eq_true rfl⟩) rfl rfl rfl rfl (Nat.le_of_ble_eq_true rfl) dX2_readDeeper_72 ⟨(Nat.le_of_ble_eq_true rfl), (Nat.le_of_ble_eq_true rfl)⟩ (fun u_ H locs hq24 hP hD hS => ?_)
      obtain ⟨lz2_21, fc2_22, q_23⟩ := u_
      replace hq24 : (0 ≤ lz2_21.toInt ∧ lz2_21.toInt ≤ 400) := hq24
      have hP : va_P g.1 vwCl (List.flatten [bLT g lt ta lo, bTape g ta ab sz ln kd2_11 bg2_12 nx2_13 ft2_14 fb, bLaw g lo lc lz2_21 ll lm lg ld fc2_22]) H := hP
      have hD : va_D A (List.flatten [bLT g lt ta lo, bTape g ta ab sz ln kd2_11 bg2_12 nx2_13 ft2_14 fb, bLaw g lo lc lz2_21 ll lm lg ld fc2_22]) := hD
      refine W.widen (k := 0) (n := 0) (Nat.le_of_ble_eq_true rfl) (Nat.le_of_ble_eq_true rfl) ?_
      refine W.eq (g2 := F0 m 75 ls [.int q_23]) rfl ?_
      refine lv_pop hx hb dX2_readDeeper_75 rfl ?_
      refine lv_iconst (v := 1) hx hb dX2_readDeeper_76 (by decide) ?_
      have hP : va_P g.1 vwCl (List.flatten [bLT g lt ta lo, bTape g ta ab sz ln kd2_11 bg2_12 nx2_13 ft2_14 fb, bLaw g lo lc lz2_21 ll lm lg ld fc2_22]) H := hP
      have hD : va_D A (List.flatten [bLT g lt ta lo, bTape g ta ab sz ln kd2_11 bg2_12 nx2_13 ft2_14 fb, bLaw g lo lc lz2_21 ll lm lg ld fc2_22]) := hD
      exact mret_z hx hb hr hlocks hS (Nat.le_of_ble_eq_true rfl) (Nat.le_of_ble_eq_true rfl) dX2_readDeeper_77 (kd2_11, bg2_12, nx2_13, ft2_14, lz2_21, fc2_22, (1 : Int32)) rfl (by decide) (show (0 ≤ lz2_21.toInt ∧ lz2_21.toInt ≤ 400) ∧ (-1 ≤ ft2_14.toInt) ∧ (0 ≤ nx2_13.toInt ∧ nx2_13.toInt ≤ 400) ∧ (0 ≤ bg2_12.toInt ∧ bg2_12.toInt ≤ 400) ∧ (zKd kd2_11.toInt bg2_12.toInt nx2_13.toInt) ∧ (1 = 0 ∨ 1 = 1) from ⟨hq24, hq18_1, hq18_2, hq18_3, hq18_4, (by decide)⟩) hP hD
  · skip
    refine lv_if_eq (tgt := 48) hx hb dX2_readDeeper_9 (by decide) (fun c25 => absurd c25 (by decide)) (fun _ => ?_)
    refine lv_aload_n hx hb dX2_readDeeper_12 rfl (lv_at hl 0 rfl) ?_
    refine lv_iload_n hx hb dX2_readDeeper_13 rfl (lv_at hl 1 rfl) ?_
    refine mcallV' (g := g) (q0 := 0) (ci := 2) (As := [.int 6]) (rest := []) St hK hT hA hP hD hS hl.1 [0, 2, 1] [] rfl rfl rfl (c_lt_readCondition6 l g lt ta lo ab sz ln kd2_1 bg2_2 nx2_3 ft fb lc lz ll lm lg ld fc b_lz hln hq5_0 hq5_1 hq5_2 hft) (cwV 1 hts (zgL (zl4 k324 k325 k326 k309) k316) rfl rfl rfl (by decide +kernel) ⟨Nat.le_of_ble_eq_true rfl, Nat.le_of_ble_eq_true rfl⟩) rfl rfl rfl rfl (Nat.le_of_ble_eq_true rfl) dX2_readDeeper_14 ⟨(Nat.le_of_ble_eq_true rfl), (Nat.le_of_ble_eq_true rfl)⟩ (fun u_ H locs hq33 hP hD hS => ?_)
    obtain ⟨kd2_26, bg2_27, nx2_28, ft2_29, lz2_30, fc2_31, q_32⟩ := u_
    replace hq33 : (0 ≤ lz2_30.toInt ∧ lz2_30.toInt ≤ 400) ∧ (-1 ≤ ft2_29.toInt) ∧ (0 ≤ nx2_28.toInt ∧ nx2_28.toInt ≤ 400) ∧ (0 ≤ bg2_27.toInt ∧ bg2_27.toInt ≤ 400) ∧ (zKd kd2_26.toInt bg2_27.toInt nx2_28.toInt) ∧ (q_32 = 0 ∨ q_32 = 1) := hq33
    have hP : va_P g.1 vwCl (List.flatten [bLT g lt ta lo, bTape g ta ab sz ln kd2_26 bg2_27 nx2_28 ft2_29 fb, bLaw g lo lc lz2_30 ll lm lg ld fc2_31]) H := hP
    have hD : va_D A (List.flatten [bLT g lt ta lo, bTape g ta ab sz ln kd2_26 bg2_27 nx2_28 ft2_29 fb, bLaw g lo lc lz2_30 ll lm lg ld fc2_31]) := hD
    refine W.widen (k := 0) (n := 0) (Nat.le_of_ble_eq_true rfl) (Nat.le_of_ble_eq_true rfl) ?_
    refine W.eq (g2 := F0 m 17 ls [.int q_32]) rfl ?_
    obtain ⟨hq33_0, hq33_1, hq33_2, hq33_3, hq33_4, hq33_5⟩ := hq33
    rcases hq33_5 with rfl | rfl
    · skip
      refine lv_if_eq (tgt := 46) hx hb dX2_readDeeper_17 (by decide) (fun _ => ?_) (fun c34 => absurd (by decide) c34)
      refine lv_iconst (v := 0) hx hb dX2_readDeeper_46 (by decide) ?_
      have hP : va_P g.1 vwCl (List.flatten [bLT g lt ta lo, bTape g ta ab sz ln kd2_26 bg2_27 nx2_28 ft2_29 fb, bLaw g lo lc lz2_30 ll lm lg ld fc2_31]) H := hP
      have hD : va_D A (List.flatten [bLT g lt ta lo, bTape g ta ab sz ln kd2_26 bg2_27 nx2_28 ft2_29 fb, bLaw g lo lc lz2_30 ll lm lg ld fc2_31]) := hD
      exact mret_z hx hb hr hlocks hS (Nat.le_of_ble_eq_true rfl) (Nat.le_of_ble_eq_true rfl) dX2_readDeeper_47 (kd2_26, bg2_27, nx2_28, ft2_29, lz2_30, fc2_31, (0 : Int32)) rfl (by decide) (show (0 ≤ lz2_30.toInt ∧ lz2_30.toInt ≤ 400) ∧ (-1 ≤ ft2_29.toInt) ∧ (0 ≤ nx2_28.toInt ∧ nx2_28.toInt ≤ 400) ∧ (0 ≤ bg2_27.toInt ∧ bg2_27.toInt ≤ 400) ∧ (zKd kd2_26.toInt bg2_27.toInt nx2_28.toInt) ∧ (0 = 0 ∨ 0 = 1) from ⟨hq33_0, hq33_1, hq33_2, hq33_3, hq33_4, (by decide)⟩) hP hD
    · skip
      refine lv_if_eq (tgt := 46) hx hb dX2_readDeeper_17 (by decide) (fun c35 => absurd c35 (by decide)) (fun _ => ?_)
      refine lv_aload_n hx hb dX2_readDeeper_20 rfl (lv_at hl 0 rfl) ?_
      refine va_get (D := g.1) (ci := 2) (v := .ref ta) (C := RX2) (T := TX2) (N := 2) hx hb hts izRX2 hown hK hP 0 rfl rfl 0 (by decide) (hts _ k290) (fun x9 h9 => u_same (hts _ k291) x9 h9) rfl dX2_readDeeper_21 ?_
      refine lv_bipush (v := 41) hx hb dX2_readDeeper_24 (by decide) ?_
      refine mcallV' (g := g) (q0 := 0) (ci := 6) (As := [.int 41]) (rest := []) St hK hT hA hP hD hS hl.1 [1] [0, 2] rfl rfl rfl (c_t_takeSign l g ta ab sz ln kd2_26 bg2_27 nx2_28 ft2_29 fb 41 hln hq33_2 hq33_3 hq33_4 hq33_1) (cwV 1 hts (zgL (zl4 k300 k301 k302 k277) k286) rfl rfl rfl (by decide +kernel) ⟨Nat.le_of_ble_eq_true rfl, Nat.le_of_ble_eq_true rfl⟩) rfl rfl rfl rfl (Nat.le_of_ble_eq_true rfl) dX2_readDeeper_26 ⟨(Nat.le_of_ble_eq_true rfl), (Nat.le_of_ble_eq_true rfl)⟩ (fun u_ H locs hq40 hP hD hS => ?_)
      obtain ⟨kd2_36, bg2_37, nx2_38, q_39⟩ := u_
      replace hq40 : (0 ≤ nx2_38.toInt ∧ nx2_38.toInt ≤ 400) ∧ (0 ≤ bg2_37.toInt ∧ bg2_37.toInt ≤ 400) ∧ (zKd kd2_36.toInt bg2_37.toInt nx2_38.toInt) ∧ (q_39 = 0 ∨ q_39 = 1) := hq40
      have hP : va_P g.1 vwCl (List.flatten [bLT g lt ta lo, bLaw g lo lc lz2_30 ll lm lg ld fc2_31, bTape g ta ab sz ln kd2_36 bg2_37 nx2_38 ft2_29 fb]) H := hP
      have hD : va_D A (List.flatten [bLT g lt ta lo, bLaw g lo lc lz2_30 ll lm lg ld fc2_31, bTape g ta ab sz ln kd2_36 bg2_37 nx2_38 ft2_29 fb]) := hD
      refine W.widen (k := 0) (n := 0) (Nat.le_of_ble_eq_true rfl) (Nat.le_of_ble_eq_true rfl) ?_
      refine W.eq (g2 := F0 m 29 ls [.int q_39]) rfl ?_
      obtain ⟨hq40_0, hq40_1, hq40_2, hq40_3⟩ := hq40
      rcases hq40_3 with rfl | rfl
      · skip
        refine lv_if_ne (tgt := 42) hx hb dX2_readDeeper_29 (by decide) (fun c41 => absurd (by decide) c41) (fun _ => ?_)
        refine lv_aload_n hx hb dX2_readDeeper_32 rfl (lv_at hl 0 rfl) ?_
        refine va_get (D := g.1) (ci := 2) (v := .ref ta) (C := RX2) (T := TX2) (N := 2) hx hb hts izRX2 hown hK hP 0 rfl rfl 0 (by decide) (hts _ k290) (fun x9 h9 => u_same (hts _ k291) x9 h9) rfl dX2_readDeeper_33 ?_
        refine mcallV' (g := g) (q0 := 0) (ci := 6) (As := []) (rest := []) St hK hT hA hP hD hS hl.1 [2] [0, 1] rfl rfl rfl (c_t_refuse l g ta ab sz ln kd2_36 bg2_37 nx2_38 ft2_29 fb hln hq40_0 hq40_1 hq40_2 hq33_1) (cwV 0 hts (zgL (zl4 k303 k279 k280 k277) k269) rfl rfl rfl (by decide +kernel) ⟨Nat.le_of_ble_eq_true rfl, Nat.le_of_ble_eq_true rfl⟩) rfl rfl rfl rfl (Nat.le_of_ble_eq_true rfl) dX2_readDeeper_36 ⟨(Nat.le_of_ble_eq_true rfl), (Nat.le_of_ble_eq_true rfl)⟩ (fun ft2_42 H locs hq43 hP hD hS => ?_)
        replace hq43 : (-1 ≤ ft2_42.toInt) := hq43
        have hP : va_P g.1 vwCl (List.flatten [bLT g lt ta lo, bLaw g lo lc lz2_30 ll lm lg ld fc2_31, bTape g ta ab sz ln kd2_36 bg2_37 nx2_38 ft2_42 fb]) H := hP
        have hD : va_D A (List.flatten [bLT g lt ta lo, bLaw g lo lc lz2_30 ll lm lg ld fc2_31, bTape g ta ab sz ln kd2_36 bg2_37 nx2_38 ft2_42 fb]) := hD
        refine W.widen (k := 0) (n := 0) (Nat.le_of_ble_eq_true rfl) (Nat.le_of_ble_eq_true rfl) ?_
        refine W.eq (g2 := F0 m 39 ls [.int 0]) rfl ?_
        refine lv_if_eq (tgt := 46) hx hb dX2_readDeeper_39 (by decide) (fun _ => ?_) (fun c44 => absurd (by decide) c44)
        refine lv_iconst (v := 0) hx hb dX2_readDeeper_46 (by decide) ?_
        have hP : va_P g.1 vwCl (List.flatten [bLT g lt ta lo, bLaw g lo lc lz2_30 ll lm lg ld fc2_31, bTape g ta ab sz ln kd2_36 bg2_37 nx2_38 ft2_42 fb]) H := hP
        have hD : va_D A (List.flatten [bLT g lt ta lo, bLaw g lo lc lz2_30 ll lm lg ld fc2_31, bTape g ta ab sz ln kd2_36 bg2_37 nx2_38 ft2_42 fb]) := hD
        obtain ⟨hP, hD⟩ := zord (g := g) (Bs' := [bLT g lt ta lo, bTape g ta ab sz ln kd2_36 bg2_37 nx2_38 ft2_42 fb, bLaw g lo lc lz2_30 ll lm lg ld fc2_31]) [0, 2, 1] rfl rfl hP hD
        exact mret_z hx hb hr hlocks hS (Nat.le_of_ble_eq_true rfl) (Nat.le_of_ble_eq_true rfl) dX2_readDeeper_47 (kd2_36, bg2_37, nx2_38, ft2_42, lz2_30, fc2_31, (0 : Int32)) rfl (by decide) (show (0 ≤ lz2_30.toInt ∧ lz2_30.toInt ≤ 400) ∧ (-1 ≤ ft2_42.toInt) ∧ (0 ≤ nx2_38.toInt ∧ nx2_38.toInt ≤ 400) ∧ (0 ≤ bg2_37.toInt ∧ bg2_37.toInt ≤ 400) ∧ (zKd kd2_36.toInt bg2_37.toInt nx2_38.toInt) ∧ (0 = 0 ∨ 0 = 1) from ⟨hq33_0, hq43, hq40_0, hq40_1, hq40_2, (by decide)⟩) hP hD
      · skip
        refine lv_if_ne (tgt := 42) hx hb dX2_readDeeper_29 (by decide) (fun _ => ?_) (fun c45 => absurd c45 (by decide))
        refine lv_iconst (v := 1) hx hb dX2_readDeeper_42 (by decide) ?_
        refine lv_goto (tgt := 47) hx hb dX2_readDeeper_43 (by decide) ?_
        have hP : va_P g.1 vwCl (List.flatten [bLT g lt ta lo, bLaw g lo lc lz2_30 ll lm lg ld fc2_31, bTape g ta ab sz ln kd2_36 bg2_37 nx2_38 ft2_29 fb]) H := hP
        have hD : va_D A (List.flatten [bLT g lt ta lo, bLaw g lo lc lz2_30 ll lm lg ld fc2_31, bTape g ta ab sz ln kd2_36 bg2_37 nx2_38 ft2_29 fb]) := hD
        obtain ⟨hP, hD⟩ := zord (g := g) (Bs' := [bLT g lt ta lo, bTape g ta ab sz ln kd2_36 bg2_37 nx2_38 ft2_29 fb, bLaw g lo lc lz2_30 ll lm lg ld fc2_31]) [0, 2, 1] rfl rfl hP hD
        exact mret_z hx hb hr hlocks hS (Nat.le_of_ble_eq_true rfl) (Nat.le_of_ble_eq_true rfl) dX2_readDeeper_47 (kd2_36, bg2_37, nx2_38, ft2_29, lz2_30, fc2_31, (1 : Int32)) rfl (by decide) (show (0 ≤ lz2_30.toInt ∧ lz2_30.toInt ≤ 400) ∧ (-1 ≤ ft2_29.toInt) ∧ (0 ≤ nx2_38.toInt ∧ nx2_38.toInt ≤ 400) ∧ (0 ≤ bg2_37.toInt ∧ bg2_37.toInt ≤ 400) ∧ (zKd kd2_36.toInt bg2_37.toInt nx2_38.toInt) ∧ (1 = 0 ∨ 1 = 1) from ⟨hq33_0, hq33_1, hq40_0, hq40_1, hq40_2, (by decide)⟩) hP hD
set_option maxRecDepth 100000 in
set_option maxHeartbeats 4000000 in
theorem c_lt_readAtom5 (l : Launch) (g : zG) (lt : Nat) (ta : Nat) (lo : Nat) (ab : Nat) (sz : Int32) (ln : Int32) (kd : Int32) (bg : Int32) (nx : Int32) (ft : Int32) (fb : Nat → Int32) (lc : Nat) (lz : Int32) (ll : Int32) (lm : Int32) (lg : Int32) (ld : Int32) (fc : Nat → Int32) (b_lz : 0 ≤ lz.toInt ∧ lz.toInt ≤ 400) (hln : 0 ≤ ln.toInt ∧ ln.toInt ≤ 400) (hnx : 0 ≤ nx.toInt ∧ nx.toInt ≤ 400) (hbg : 0 ≤ bg.toInt ∧ bg.toInt ≤ 400) (hkd : zKd kd.toInt bg.toInt nx.toInt) (hft : -1 ≤ ft.toInt) : zM' g l yX2_readAtom (Cond.code yX2_readAtom cX2_readAtom 3 (some .boolean) :: zB) ({ frames := 9, cells := 0, slots := 0, locals := 197 } : Room) [.ref lt, .int 5] [bLT g lt ta lo, bTape g ta ab sz ln kd bg nx ft fb, bLaw g lo lc lz ll lm lg ld fc] (fun u : Int32 × Int32 × Int32 × Int32 × Int32 × (Nat → Int32) × Int32 => (fun (kd2 : Int32) (bg2 : Int32) (nx2 : Int32) (ft2 : Int32) (lz2 : Int32) (fc2 : Nat → Int32) (q : Int32) => some (.int q)) (u.1) (u.2.1) (u.2.2.1) (u.2.2.2.1) (u.2.2.2.2.1) (u.2.2.2.2.2.1) (u.2.2.2.2.2.2)) (fun u : Int32 × Int32 × Int32 × Int32 × Int32 × (Nat → Int32) × Int32 => (fun (kd2 : Int32) (bg2 : Int32) (nx2 : Int32) (ft2 : Int32) (lz2 : Int32) (fc2 : Nat → Int32) (q : Int32) => (0 ≤ lz2.toInt ∧ lz2.toInt ≤ 400) ∧ (-1 ≤ ft2.toInt) ∧ (0 ≤ nx2.toInt ∧ nx2.toInt ≤ 400) ∧ (0 ≤ bg2.toInt ∧ bg2.toInt ≤ 400) ∧ (zKd kd2.toInt bg2.toInt nx2.toInt) ∧ (q = 0 ∨ q = 1)) (u.1) (u.2.1) (u.2.2.1) (u.2.2.2.1) (u.2.2.2.2.1) (u.2.2.2.2.2.1) (u.2.2.2.2.2.2)) (fun u : Int32 × Int32 × Int32 × Int32 × Int32 × (Nat → Int32) × Int32 => (fun (kd2 : Int32) (bg2 : Int32) (nx2 : Int32) (ft2 : Int32) (lz2 : Int32) (fc2 : Nat → Int32) (q : Int32) => [bLT g lt ta lo, bTape g ta ab sz ln kd2 bg2 nx2 ft2 fb, bLaw g lo lc lz2 ll lm lg ld fc2]) (u.1) (u.2.1) (u.2.2.1) (u.2.2.2.1) (u.2.2.2.2.1) (u.2.2.2.2.2.1) (u.2.2.2.2.2.2)) := by
  refine zM'.of (cc := cX2_readAtom) (maxL := 3) (rt := (some .boolean)) (by decide) rfl (Nat.le_of_ble_eq_true rfl) ?_
  intro p e s m args below meth c A ls St hr hlocks hin hK hT hA hP hD hS hl
  obtain ⟨hx, hb, hml, hown, hts⟩ := id St
  have hl : lv_has ls 3 [(0, .ref lt), (1, .int 5)] := hl
  refine lv_aload_n hx hb dX2_readAtom_0 rfl (lv_at hl 0 rfl) ?_
  refine va_get (D := g.1) (ci := 2) (v := .ref ta) (C := RX2) (T := TX2) (N := 2) hx hb hts izRX2 hown hK hP 0 rfl rfl 0 (by decide) (hts _ k290) (fun x9 h9 => u_same (hts _ k291) x9 h9) rfl dX2_readAtom_1 ?_
  refine va_ldcS (q := g.2 20) hx hb hown (zra5 hT.2.1) dX2_readAtom_4 ?_
  refine mcallV' (g := g) (q0 := 0) (ci := 6) (As := [.ref (g.2 20)]) (rest := []) St hK hT hA hP hD hS hl.1 [1] [0, 2] rfl rfl rfl (c_t_isWord l g ta ab sz ln kd bg nx ft fb (g.2 20) 5 zqa5 hln hnx hbg hkd hft rfl zla5 zna5) (cwV 1 hts (zgL (zl4 k292 k282 k283 k277) k268) rfl rfl rfl (by decide +kernel) ⟨Nat.le_of_ble_eq_true rfl, Nat.le_of_ble_eq_true rfl⟩) rfl rfl rfl rfl (Nat.le_of_ble_eq_true rfl) dX2_readAtom_6 ⟨(Nat.le_of_ble_eq_true rfl), (Nat.le_of_ble_eq_true rfl)⟩ (fun r_1 H locs hq2 hP hD hS => ?_)
  replace hq2 : (r_1 = 0 ∨ r_1 = 1) := hq2
  have hP : va_P g.1 vwCl (List.flatten [bLT g lt ta lo, bLaw g lo lc lz ll lm lg ld fc, bTape g ta ab sz ln kd bg nx ft fb]) H := hP
  have hD : va_D A (List.flatten [bLT g lt ta lo, bLaw g lo lc lz ll lm lg ld fc, bTape g ta ab sz ln kd bg nx ft fb]) := hD
  refine W.widen (k := 0) (n := 0) (Nat.le_of_ble_eq_true rfl) (Nat.le_of_ble_eq_true rfl) ?_
  refine W.eq (g2 := F0 m 9 ls [.int r_1]) rfl ?_
  rcases hq2 with rfl | rfl
  · skip
    refine lv_if_ne (tgt := 24) hx hb dX2_readAtom_9 (by decide) (fun c3 => absurd (by decide) c3) (fun _ => ?_)
    refine lv_aload_n hx hb dX2_readAtom_12 rfl (lv_at hl 0 rfl) ?_
    refine va_get (D := g.1) (ci := 2) (v := .ref ta) (C := RX2) (T := TX2) (N := 2) hx hb hts izRX2 hown hK hP 0 rfl rfl 0 (by decide) (hts _ k290) (fun x9 h9 => u_same (hts _ k291) x9 h9) rfl dX2_readAtom_13 ?_
    refine lv_bipush (v := 40) hx hb dX2_readAtom_16 (by decide) ?_
    refine mcallV' (g := g) (q0 := 0) (ci := 6) (As := [.int 40]) (rest := []) St hK hT hA hP hD hS hl.1 [2] [0, 1] rfl rfl rfl (c_t_isSign l g ta ab sz ln kd bg nx ft fb 40 hln hnx hbg hkd hft) (cwV 1 hts (zgL (zl4 k305 k288 k289 k277) k285) rfl rfl rfl (by decide +kernel) ⟨Nat.le_of_ble_eq_true rfl, Nat.le_of_ble_eq_true rfl⟩) rfl rfl rfl rfl (Nat.le_of_ble_eq_true rfl) dX2_readAtom_18 ⟨(Nat.le_of_ble_eq_true rfl), (Nat.le_of_ble_eq_true rfl)⟩ (fun q_4 H locs hq5 hP hD hS => ?_)
    replace hq5 : (q_4 = 0 ∨ q_4 = 1) := hq5
    have hP : va_P g.1 vwCl (List.flatten [bLT g lt ta lo, bLaw g lo lc lz ll lm lg ld fc, bTape g ta ab sz ln kd bg nx ft fb]) H := hP
    have hD : va_D A (List.flatten [bLT g lt ta lo, bLaw g lo lc lz ll lm lg ld fc, bTape g ta ab sz ln kd bg nx ft fb]) := hD
    refine W.widen (k := 0) (n := 0) (Nat.le_of_ble_eq_true rfl) (Nat.le_of_ble_eq_true rfl) ?_
    refine W.eq (g2 := F0 m 21 ls [.int q_4]) rfl ?_
    rcases hq5 with rfl | rfl
    · skip
      refine lv_if_eq (tgt := 48) hx hb dX2_readAtom_21 (by decide) (fun _ => ?_) (fun c6 => absurd (by decide) c6)
      refine lv_aload_n hx hb dX2_readAtom_48 rfl (lv_at hl 0 rfl) ?_
      refine va_get (D := g.1) (ci := 2) (v := .ref ta) (C := RX2) (T := TX2) (N := 2) hx hb hts izRX2 hown hK hP 0 rfl rfl 0 (by decide) (hts _ k290) (fun x9 h9 => u_same (hts _ k291) x9 h9) rfl dX2_readAtom_49 ?_
      refine va_ldcS (q := g.2 22) hx hb hown (zra6 hT.2.1) dX2_readAtom_52 ?_
      refine mcallV' (g := g) (q0 := 0) (ci := 6) (As := [.ref (g.2 22)]) (rest := []) St hK hT hA hP hD hS hl.1 [2] [0, 1] rfl rfl rfl (c_t_takeWord l g ta ab sz ln kd bg nx ft fb (g.2 22) 6 zqa6 hln hnx hbg hkd hft rfl zla6 zna6) (cwV 1 hts (zgL (zl4 k310 k311 k312 k277) k284) rfl rfl rfl (by decide +kernel) ⟨Nat.le_of_ble_eq_true rfl, Nat.le_of_ble_eq_true rfl⟩) rfl rfl rfl rfl (Nat.le_of_ble_eq_true rfl) dX2_readAtom_54 ⟨(Nat.le_of_ble_eq_true rfl), (Nat.le_of_ble_eq_true rfl)⟩ (fun u_ H locs hq11 hP hD hS => ?_)
      obtain ⟨kd2_7, bg2_8, nx2_9, r_10⟩ := u_
      replace hq11 : (0 ≤ nx2_9.toInt ∧ nx2_9.toInt ≤ 400) ∧ (0 ≤ bg2_8.toInt ∧ bg2_8.toInt ≤ 400) ∧ (zKd kd2_7.toInt bg2_8.toInt nx2_9.toInt) ∧ (r_10 = 0 ∨ r_10 = 1) := hq11
      have hP : va_P g.1 vwCl (List.flatten [bLT g lt ta lo, bLaw g lo lc lz ll lm lg ld fc, bTape g ta ab sz ln kd2_7 bg2_8 nx2_9 ft fb]) H := hP
      have hD : va_D A (List.flatten [bLT g lt ta lo, bLaw g lo lc lz ll lm lg ld fc, bTape g ta ab sz ln kd2_7 bg2_8 nx2_9 ft fb]) := hD
      refine W.widen (k := 0) (n := 0) (Nat.le_of_ble_eq_true rfl) (Nat.le_of_ble_eq_true rfl) ?_
      refine W.eq (g2 := F0 m 57 ls [.int r_10]) rfl ?_
      obtain ⟨hq11_0, hq11_1, hq11_2, hq11_3⟩ := hq11
      rcases hq11_3 with rfl | rfl
      · skip
        refine lv_if_eq (tgt := 73) hx hb dX2_readAtom_57 (by decide) (fun _ => ?_) (fun c12 => absurd (by decide) c12)
        refine lv_aload_n hx hb dX2_readAtom_73 rfl (lv_at hl 0 rfl) ?_
        refine va_get (D := g.1) (ci := 2) (v := .ref ta) (C := RX2) (T := TX2) (N := 2) hx hb hts izRX2 hown hK hP 0 rfl rfl 0 (by decide) (hts _ k290) (fun x9 h9 => u_same (hts _ k291) x9 h9) rfl dX2_readAtom_74 ?_
        refine va_ldcS (q := g.2 24) hx hb hown (zra7 hT.2.1) dX2_readAtom_77 ?_
        refine mcallV' (g := g) (q0 := 0) (ci := 6) (As := [.ref (g.2 24)]) (rest := []) St hK hT hA hP hD hS hl.1 [2] [0, 1] rfl rfl rfl (c_t_takeWord l g ta ab sz ln kd2_7 bg2_8 nx2_9 ft fb (g.2 24) 7 zqa7 hln hq11_0 hq11_1 hq11_2 hft rfl zla7 zna7) (cwV 1 hts (zgL (zl4 k310 k311 k312 k277) k284) rfl rfl rfl (by decide +kernel) ⟨Nat.le_of_ble_eq_true rfl, Nat.le_of_ble_eq_true rfl⟩) rfl rfl rfl rfl (Nat.le_of_ble_eq_true rfl) dX2_readAtom_79 ⟨(Nat.le_of_ble_eq_true rfl), (Nat.le_of_ble_eq_true rfl)⟩ (fun u_ H locs hq17 hP hD hS => ?_)
        obtain ⟨kd2_13, bg2_14, nx2_15, r_16⟩ := u_
        replace hq17 : (0 ≤ nx2_15.toInt ∧ nx2_15.toInt ≤ 400) ∧ (0 ≤ bg2_14.toInt ∧ bg2_14.toInt ≤ 400) ∧ (zKd kd2_13.toInt bg2_14.toInt nx2_15.toInt) ∧ (r_16 = 0 ∨ r_16 = 1) := hq17
        have hP : va_P g.1 vwCl (List.flatten [bLT g lt ta lo, bLaw g lo lc lz ll lm lg ld fc, bTape g ta ab sz ln kd2_13 bg2_14 nx2_15 ft fb]) H := hP
        have hD : va_D A (List.flatten [bLT g lt ta lo, bLaw g lo lc lz ll lm lg ld fc, bTape g ta ab sz ln kd2_13 bg2_14 nx2_15 ft fb]) := hD
        refine W.widen (k := 0) (n := 0) (Nat.le_of_ble_eq_true rfl) (Nat.le_of_ble_eq_true rfl) ?_
        refine W.eq (g2 := F0 m 82 ls [.int r_16]) rfl ?_
        obtain ⟨hq17_0, hq17_1, hq17_2, hq17_3⟩ := hq17
        rcases hq17_3 with rfl | rfl
        · skip
          refine lv_if_eq (tgt := 98) hx hb dX2_readAtom_82 (by decide) (fun _ => ?_) (fun c18 => absurd (by decide) c18)
          refine lv_aload_n hx hb dX2_readAtom_98 rfl (lv_at hl 0 rfl) ?_
          refine mcallV' (g := g) (q0 := 0) (ci := 2) (As := []) (rest := []) St hK hT hA hP hD hS hl.1 [0, 2, 1] [] rfl rfl rfl (c_lt_readSum l g lt ta lo ab sz ln kd2_13 bg2_14 nx2_15 ft fb lc lz ll lm lg ld fc b_lz hln hq17_0 hq17_1 hq17_2 hft) (cwV 0 hts (zgL (zl4 k313 k314 k315 k309) k304) rfl rfl rfl (by decide +kernel) ⟨Nat.le_of_ble_eq_true rfl, Nat.le_of_ble_eq_true rfl⟩) rfl rfl rfl rfl (Nat.le_of_ble_eq_true rfl) dX2_readAtom_99 ⟨(Nat.le_of_ble_eq_true rfl), (Nat.le_of_ble_eq_true rfl)⟩ (fun u_ H locs hq26 hP hD hS => ?_)
          obtain ⟨kd2_19, bg2_20, nx2_21, ft2_22, lz2_23, fc2_24, q_25⟩ := u_
          replace hq26 : (0 ≤ lz2_23.toInt ∧ lz2_23.toInt ≤ 400) ∧ (-1 ≤ ft2_22.toInt) ∧ (0 ≤ nx2_21.toInt ∧ nx2_21.toInt ≤ 400) ∧ (0 ≤ bg2_20.toInt ∧ bg2_20.toInt ≤ 400) ∧ (zKd kd2_19.toInt bg2_20.toInt nx2_21.toInt) ∧ (q_25 = 0 ∨ q_25 = 1) := hq26
          have hP : va_P g.1 vwCl (List.flatten [bLT g lt ta lo, bTape g ta ab sz ln kd2_19 bg2_20 nx2_21 ft2_22 fb, bLaw g lo lc lz2_23 ll lm lg ld fc2_24]) H := hP
          have hD : va_D A (List.flatten [bLT g lt ta lo, bTape g ta ab sz ln kd2_19 bg2_20 nx2_21 ft2_22 fb, bLaw g lo lc lz2_23 ll lm lg ld fc2_24]) := hD
          refine W.widen (k := 0) (n := 0) (Nat.le_of_ble_eq_true rfl) (Nat.le_of_ble_eq_true rfl) ?_
          refine W.eq (g2 := F0 m 102 ls [.int q_25]) rfl ?_
          obtain ⟨hq26_0, hq26_1, hq26_2, hq26_3, hq26_4, hq26_5⟩ := hq26
          rcases hq26_5 with rfl | rfl
          · skip
            refine lv_if_ne (tgt := 107) hx hb dX2_readAtom_102 (by decide) (fun c27 => absurd (by decide) c27) (fun _ => ?_)
            refine lv_iconst (v := 0) hx hb dX2_readAtom_105 (by decide) ?_
            have hP : va_P g.1 vwCl (List.flatten [bLT g lt ta lo, bTape g ta ab sz ln kd2_19 bg2_20 nx2_21 ft2_22 fb, bLaw g lo lc lz2_23 ll lm lg ld fc2_24]) H := hP
            have hD : va_D A (List.flatten [bLT g lt ta lo, bTape g ta ab sz ln kd2_19 bg2_20 nx2_21 ft2_22 fb, bLaw g lo lc lz2_23 ll lm lg ld fc2_24]) := hD
            exact mret_z hx hb hr hlocks hS (Nat.le_of_ble_eq_true rfl) (Nat.le_of_ble_eq_true rfl) dX2_readAtom_106 (kd2_19, bg2_20, nx2_21, ft2_22, lz2_23, fc2_24, (0 : Int32)) rfl (by decide) (show (0 ≤ lz2_23.toInt ∧ lz2_23.toInt ≤ 400) ∧ (-1 ≤ ft2_22.toInt) ∧ (0 ≤ nx2_21.toInt ∧ nx2_21.toInt ≤ 400) ∧ (0 ≤ bg2_20.toInt ∧ bg2_20.toInt ≤ 400) ∧ (zKd kd2_19.toInt bg2_20.toInt nx2_21.toInt) ∧ (0 = 0 ∨ 0 = 1) from ⟨hq26_0, hq26_1, hq26_2, hq26_3, hq26_4, (by decide)⟩) hP hD
          · skip
            refine lv_if_ne (tgt := 107) hx hb dX2_readAtom_102 (by decide) (fun _ => ?_) (fun c28 => absurd c28 (by decide))
            refine lv_aload_n hx hb dX2_readAtom_107 rfl (lv_at hl 0 rfl) ?_
            refine va_get (D := g.1) (ci := 2) (v := .ref ta) (C := RX2) (T := TX2) (N := 2) hx hb hts izRX2 hown hK hP 0 rfl rfl 0 (by decide) (hts _ k290) (fun x9 h9 => u_same (hts _ k291) x9 h9) rfl dX2_readAtom_108 ?_
            refine lv_bipush (v := 60) hx hb dX2_readAtom_111 (by decide) ?_
            refine mcallV' (g := g) (q0 := 0) (ci := 6) (As := [.int 60]) (rest := []) St hK hT hA hP hD hS hl.1 [1] [0, 2] rfl rfl rfl (c_t_isSign l g ta ab sz ln kd2_19 bg2_20 nx2_21 ft2_22 fb 60 hln hq26_2 hq26_3 hq26_4 hq26_1) (cwV 1 hts (zgL (zl4 k305 k288 k289 k277) k285) rfl rfl rfl (by decide +kernel) ⟨Nat.le_of_ble_eq_true rfl, Nat.le_of_ble_eq_true rfl⟩) rfl rfl rfl rfl (Nat.le_of_ble_eq_true rfl) dX2_readAtom_113 ⟨(Nat.le_of_ble_eq_true rfl), (Nat.le_of_ble_eq_true rfl)⟩ (fun q_29 H locs hq30 hP hD hS => ?_)
            replace hq30 : (q_29 = 0 ∨ q_29 = 1) := hq30
            have hP : va_P g.1 vwCl (List.flatten [bLT g lt ta lo, bLaw g lo lc lz2_23 ll lm lg ld fc2_24, bTape g ta ab sz ln kd2_19 bg2_20 nx2_21 ft2_22 fb]) H := hP
            have hD : va_D A (List.flatten [bLT g lt ta lo, bLaw g lo lc lz2_23 ll lm lg ld fc2_24, bTape g ta ab sz ln kd2_19 bg2_20 nx2_21 ft2_22 fb]) := hD
            refine W.widen (k := 0) (n := 0) (Nat.le_of_ble_eq_true rfl) (Nat.le_of_ble_eq_true rfl) ?_
            refine W.eq (g2 := F0 m 116 ls [.int q_29]) rfl ?_
            rcases hq30 with rfl | rfl
            · skip
              refine lv_istore_n (lv' := [(2, .int 0), (0, .ref lt), (1, .int 5)]) hx hb dX2_readAtom_116 rfl hl (by decide) rfl (fun ls hl => ?_)
              refine lv_iload_n hx hb dX2_readAtom_117 rfl (lv_at hl 0 rfl) ?_
              refine lv_if_ne (tgt := 141) hx hb dX2_readAtom_118 (by decide) (fun c31 => absurd (by decide) c31) (fun _ => ?_)
              refine lv_aload_n hx hb dX2_readAtom_121 rfl (lv_at hl 1 rfl) ?_
              refine va_get (D := g.1) (ci := 2) (v := .ref ta) (C := RX2) (T := TX2) (N := 2) hx hb hts izRX2 hown hK hP 0 rfl rfl 0 (by decide) (hts _ k290) (fun x9 h9 => u_same (hts _ k291) x9 h9) rfl dX2_readAtom_122 ?_
              refine lv_bipush (v := 62) hx hb dX2_readAtom_125 (by decide) ?_
              refine mcallV' (g := g) (q0 := 0) (ci := 6) (As := [.int 62]) (rest := []) St hK hT hA hP hD hS hl.1 [2] [0, 1] rfl rfl rfl (c_t_isSign l g ta ab sz ln kd2_19 bg2_20 nx2_21 ft2_22 fb 62 hln hq26_2 hq26_3 hq26_4 hq26_1) (cwV 1 hts (zgL (zl4 k305 k288 k289 k277) k285) rfl rfl rfl (by decide +kernel) ⟨Nat.le_of_ble_eq_true rfl, Nat.le_of_ble_eq_true rfl⟩) rfl rfl rfl rfl (Nat.le_of_ble_eq_true rfl) dX2_readAtom_127 ⟨(Nat.le_of_ble_eq_true rfl), (Nat.le_of_ble_eq_true rfl)⟩ (fun q_32 H locs hq33 hP hD hS => ?_)
              replace hq33 : (q_32 = 0 ∨ q_32 = 1) := hq33
              have hP : va_P g.1 vwCl (List.flatten [bLT g lt ta lo, bLaw g lo lc lz2_23 ll lm lg ld fc2_24, bTape g ta ab sz ln kd2_19 bg2_20 nx2_21 ft2_22 fb]) H := hP
              have hD : va_D A (List.flatten [bLT g lt ta lo, bLaw g lo lc lz2_23 ll lm lg ld fc2_24, bTape g ta ab sz ln kd2_19 bg2_20 nx2_21 ft2_22 fb]) := hD
              refine W.widen (k := 0) (n := 0) (Nat.le_of_ble_eq_true rfl) (Nat.le_of_ble_eq_true rfl) ?_
              refine W.eq (g2 := F0 m 130 ls [.int q_32]) rfl ?_
              rcases hq33 with rfl | rfl
              · skip
                refine lv_if_ne (tgt := 141) hx hb dX2_readAtom_130 (by decide) (fun c34 => absurd (by decide) c34) (fun _ => ?_)
                refine lv_aload_n hx hb dX2_readAtom_133 rfl (lv_at hl 1 rfl) ?_
                refine va_get (D := g.1) (ci := 2) (v := .ref ta) (C := RX2) (T := TX2) (N := 2) hx hb hts izRX2 hown hK hP 0 rfl rfl 0 (by decide) (hts _ k290) (fun x9 h9 => u_same (hts _ k291) x9 h9) rfl dX2_readAtom_134 ?_
                refine mcallV' (g := g) (q0 := 0) (ci := 6) (As := []) (rest := []) St hK hT hA hP hD hS hl.1 [2] [0, 1] rfl rfl rfl (c_t_refuse l g ta ab sz ln kd2_19 bg2_20 nx2_21 ft2_22 fb hln hq26_2 hq26_3 hq26_4 hq26_1) (cwV 0 hts (zgL (zl4 k303 k279 k280 k277) k269) rfl rfl rfl (by decide +kernel) ⟨Nat.le_of_ble_eq_true rfl, Nat.le_of_ble_eq_true rfl⟩) rfl rfl rfl rfl (Nat.le_of_ble_eq_true rfl) dX2_readAtom_137 ⟨(Nat.le_of_ble_eq_true rfl), (Nat.le_of_ble_eq_true rfl)⟩ (fun ft2_35 H locs hq36 hP hD hS => ?_)
                replace hq36 : (-1 ≤ ft2_35.toInt) := hq36
                have hP : va_P g.1 vwCl (List.flatten [bLT g lt ta lo, bLaw g lo lc lz2_23 ll lm lg ld fc2_24, bTape g ta ab sz ln kd2_19 bg2_20 nx2_21 ft2_35 fb]) H := hP
                have hD : va_D A (List.flatten [bLT g lt ta lo, bLaw g lo lc lz2_23 ll lm lg ld fc2_24, bTape g ta ab sz ln kd2_19 bg2_20 nx2_21 ft2_35 fb]) := hD
                refine W.widen (k := 0) (n := 0) (Nat.le_of_ble_eq_true rfl) (Nat.le_of_ble_eq_true rfl) ?_
                refine W.eq (g2 := F0 m 140 ls [.int 0]) rfl ?_
                have hP : va_P g.1 vwCl (List.flatten [bLT g lt ta lo, bLaw g lo lc lz2_23 ll lm lg ld fc2_24, bTape g ta ab sz ln kd2_19 bg2_20 nx2_21 ft2_35 fb]) H := hP
                have hD : va_D A (List.flatten [bLT g lt ta lo, bLaw g lo lc lz2_23 ll lm lg ld fc2_24, bTape g ta ab sz ln kd2_19 bg2_20 nx2_21 ft2_35 fb]) := hD
                obtain ⟨hP, hD⟩ := zord (g := g) (Bs' := [bLT g lt ta lo, bTape g ta ab sz ln kd2_19 bg2_20 nx2_21 ft2_35 fb, bLaw g lo lc lz2_23 ll lm lg ld fc2_24]) [0, 2, 1] rfl rfl hP hD
                exact mret_z hx hb hr hlocks hS (Nat.le_of_ble_eq_true rfl) (Nat.le_of_ble_eq_true rfl) dX2_readAtom_140 (kd2_19, bg2_20, nx2_21, ft2_35, lz2_23, fc2_24, (0 : Int32)) rfl (by decide) (show (0 ≤ lz2_23.toInt ∧ lz2_23.toInt ≤ 400) ∧ (-1 ≤ ft2_35.toInt) ∧ (0 ≤ nx2_21.toInt ∧ nx2_21.toInt ≤ 400) ∧ (0 ≤ bg2_20.toInt ∧ bg2_20.toInt ≤ 400) ∧ (zKd kd2_19.toInt bg2_20.toInt nx2_21.toInt) ∧ (0 = 0 ∨ 0 = 1) from ⟨hq26_0, hq36, hq26_2, hq26_3, hq26_4, (by decide)⟩) hP hD
              · skip
                refine lv_if_ne (tgt := 141) hx hb dX2_readAtom_130 (by decide) (fun _ => ?_) (fun c37 => absurd c37 (by decide))
                refine lv_aload_n hx hb dX2_readAtom_141 rfl (lv_at hl 1 rfl) ?_
                refine va_get (D := g.1) (ci := 2) (v := .ref ta) (C := RX2) (T := TX2) (N := 2) hx hb hts izRX2 hown hK hP 0 rfl rfl 0 (by decide) (hts _ k290) (fun x9 h9 => u_same (hts _ k291) x9 h9) rfl dX2_readAtom_142 ?_
                refine mcallV' (g := g) (q0 := 0) (ci := 6) (As := []) (rest := []) St hK hT hA hP hD hS hl.1 [2] [0, 1] rfl rfl rfl (c_t_step l g ta ab sz ln kd2_19 bg2_20 nx2_21 ft2_22 fb hln hq26_2) (cwV 0 hts (zgL (zl4 k296 k275 k276 k277) k271) rfl rfl rfl (by decide +kernel) ⟨Nat.le_of_ble_eq_true rfl, Nat.le_of_ble_eq_true rfl⟩) rfl rfl rfl rfl (Nat.le_of_ble_eq_true rfl) dX2_readAtom_145 ⟨(Nat.le_of_ble_eq_true rfl), (Nat.le_of_ble_eq_true rfl)⟩ (fun u_ H locs hq41 hP hD hS => ?_)
                obtain ⟨kd2_38, bg2_39, nx2_40⟩ := u_
                replace hq41 : (0 ≤ nx2_40.toInt ∧ nx2_40.toInt ≤ 400) ∧ (0 ≤ bg2_39.toInt ∧ bg2_39.toInt ≤ 400) ∧ (zKd kd2_38.toInt bg2_39.toInt nx2_40.toInt) := hq41
                have hP : va_P g.1 vwCl (List.flatten [bLT g lt ta lo, bLaw g lo lc lz2_23 ll lm lg ld fc2_24, bTape g ta ab sz ln kd2_38 bg2_39 nx2_40 ft2_22 fb]) H := hP
                have hD : va_D A (List.flatten [bLT g lt ta lo, bLaw g lo lc lz2_23 ll lm lg ld fc2_24, bTape g ta ab sz ln kd2_38 bg2_39 nx2_40 ft2_22 fb]) := hD
                refine W.widen (k := 0) (n := 0) (Nat.le_of_ble_eq_true rfl) (Nat.le_of_ble_eq_true rfl) ?_
                refine W.eq (g2 := F0 m 148 ls []) rfl ?_
                obtain ⟨hq41_0, hq41_1, hq41_2⟩ := hq41
                refine lv_aload_n hx hb dX2_readAtom_148 rfl (lv_at hl 1 rfl) ?_
                refine va_get (D := g.1) (ci := 2) (v := .ref lo) (C := RX2) (T := TX2) (N := 2) hx hb hts izRX2 hown hK hP 0 rfl rfl 1 (by decide) (hts _ k210) (fun _ h9 => h9) rfl dX2_readAtom_149 ?_
                refine lv_bipush (v := 7) hx hb dX2_readAtom_152 (by decide) ?_
                refine lv_iconst (v := 0) hx hb dX2_readAtom_154 (by decide) ?_
                refine mcallV' (g := g) (q0 := 0) (ci := 1) (As := [.int 7, .int 0]) (rest := []) St hK hT hA hP hD hS hl.1 [1] [0, 2] rfl rfl rfl (c_l_put l g lo lc lz2_23 ll lm lg ld fc2_24 7 0 hq26_0) (cwV 2 hts (zgL (zl4 k297 k298 k299 k85) k202) rfl rfl rfl (by decide +kernel) ⟨Nat.le_of_ble_eq_true rfl, Nat.le_of_ble_eq_true rfl⟩) rfl rfl rfl rfl (Nat.le_of_ble_eq_true rfl) dX2_readAtom_155 ⟨(Nat.le_of_ble_eq_true rfl), (Nat.le_of_ble_eq_true rfl)⟩ (fun u_ H locs hq45 hP hD hS => ?_)
                obtain ⟨lz2_42, fc2_43, q_44⟩ := u_
                replace hq45 : (0 ≤ lz2_42.toInt ∧ lz2_42.toInt ≤ 400) := hq45
                have hP : va_P g.1 vwCl (List.flatten [bLT g lt ta lo, bTape g ta ab sz ln kd2_38 bg2_39 nx2_40 ft2_22 fb, bLaw g lo lc lz2_42 ll lm lg ld fc2_43]) H := hP
                have hD : va_D A (List.flatten [bLT g lt ta lo, bTape g ta ab sz ln kd2_38 bg2_39 nx2_40 ft2_22 fb, bLaw g lo lc lz2_42 ll lm lg ld fc2_43]) := hD
                refine W.widen (k := 0) (n := 0) (Nat.le_of_ble_eq_true rfl) (Nat.le_of_ble_eq_true rfl) ?_
                refine W.eq (g2 := F0 m 158 ls [.int q_44]) rfl ?_
                refine lv_pop hx hb dX2_readAtom_158 rfl ?_
                refine lv_aload_n hx hb dX2_readAtom_159 rfl (lv_at hl 1 rfl) ?_
                refine mcallV' (g := g) (q0 := 0) (ci := 2) (As := []) (rest := []) St hK hT hA hP hD hS hl.1 [0, 1, 2] [] rfl rfl rfl (c_lt_readSum l g lt ta lo ab sz ln kd2_38 bg2_39 nx2_40 ft2_22 fb lc lz2_42 ll lm lg ld fc2_43 hq45 hln hq41_0 hq41_1 hq41_2 hq26_1) (cwV 0 hts (zgL (zl4 k313 k314 k315 k309) k304) rfl rfl rfl (by decide +kernel) ⟨Nat.le_of_ble_eq_true rfl, Nat.le_of_ble_eq_true rfl⟩) rfl rfl rfl rfl (Nat.le_of_ble_eq_true rfl) dX2_readAtom_160 ⟨(Nat.le_of_ble_eq_true rfl), (Nat.le_of_ble_eq_true rfl)⟩ (fun u_ H locs hq53 hP hD hS => ?_)
                obtain ⟨kd2_46, bg2_47, nx2_48, ft2_49, lz2_50, fc2_51, q_52⟩ := u_
                replace hq53 : (0 ≤ lz2_50.toInt ∧ lz2_50.toInt ≤ 400) ∧ (-1 ≤ ft2_49.toInt) ∧ (0 ≤ nx2_48.toInt ∧ nx2_48.toInt ≤ 400) ∧ (0 ≤ bg2_47.toInt ∧ bg2_47.toInt ≤ 400) ∧ (zKd kd2_46.toInt bg2_47.toInt nx2_48.toInt) ∧ (q_52 = 0 ∨ q_52 = 1) := hq53
                have hP : va_P g.1 vwCl (List.flatten [bLT g lt ta lo, bTape g ta ab sz ln kd2_46 bg2_47 nx2_48 ft2_49 fb, bLaw g lo lc lz2_50 ll lm lg ld fc2_51]) H := hP
                have hD : va_D A (List.flatten [bLT g lt ta lo, bTape g ta ab sz ln kd2_46 bg2_47 nx2_48 ft2_49 fb, bLaw g lo lc lz2_50 ll lm lg ld fc2_51]) := hD
                refine W.widen (k := 0) (n := 0) (Nat.le_of_ble_eq_true rfl) (Nat.le_of_ble_eq_true rfl) ?_
                refine W.eq (g2 := F0 m 163 ls [.int q_52]) rfl ?_
                obtain ⟨hq53_0, hq53_1, hq53_2, hq53_3, hq53_4, hq53_5⟩ := hq53
                rcases hq53_5 with rfl | rfl
                · skip
                  refine lv_if_ne (tgt := 168) hx hb dX2_readAtom_163 (by decide) (fun c54 => absurd (by decide) c54) (fun _ => ?_)
                  refine lv_iconst (v := 0) hx hb dX2_readAtom_166 (by decide) ?_
                  have hP : va_P g.1 vwCl (List.flatten [bLT g lt ta lo, bTape g ta ab sz ln kd2_46 bg2_47 nx2_48 ft2_49 fb, bLaw g lo lc lz2_50 ll lm lg ld fc2_51]) H := hP
                  have hD : va_D A (List.flatten [bLT g lt ta lo, bTape g ta ab sz ln kd2_46 bg2_47 nx2_48 ft2_49 fb, bLaw g lo lc lz2_50 ll lm lg ld fc2_51]) := hD
                  exact mret_z hx hb hr hlocks hS (Nat.le_of_ble_eq_true rfl) (Nat.le_of_ble_eq_true rfl) dX2_readAtom_167 (kd2_46, bg2_47, nx2_48, ft2_49, lz2_50, fc2_51, (0 : Int32)) rfl (by decide) (show (0 ≤ lz2_50.toInt ∧ lz2_50.toInt ≤ 400) ∧ (-1 ≤ ft2_49.toInt) ∧ (0 ≤ nx2_48.toInt ∧ nx2_48.toInt ≤ 400) ∧ (0 ≤ bg2_47.toInt ∧ bg2_47.toInt ≤ 400) ∧ (zKd kd2_46.toInt bg2_47.toInt nx2_48.toInt) ∧ (0 = 0 ∨ 0 = 1) from ⟨hq53_0, hq53_1, hq53_2, hq53_3, hq53_4, (by decide)⟩) hP hD
                · skip
                  refine lv_if_ne (tgt := 168) hx hb dX2_readAtom_163 (by decide) (fun _ => ?_) (fun c55 => absurd c55 (by decide))
                  refine lv_aload_n hx hb dX2_readAtom_168 rfl (lv_at hl 1 rfl) ?_
                  refine va_get (D := g.1) (ci := 2) (v := .ref lo) (C := RX2) (T := TX2) (N := 2) hx hb hts izRX2 hown hK hP 0 rfl rfl 1 (by decide) (hts _ k210) (fun _ h9 => h9) rfl dX2_readAtom_169 ?_
                  refine lv_iload_n hx hb dX2_readAtom_172 rfl (lv_at hl 0 rfl) ?_
                  refine lv_if_eq (tgt := 181) hx hb dX2_readAtom_173 (by decide) (fun _ => ?_) (fun c56 => absurd (by decide) c56)
                  refine lv_bipush (v := 9) hx hb dX2_readAtom_181 (by decide) ?_
                  refine lv_iconst (v := 0) hx hb dX2_readAtom_183 (by decide) ?_
                  refine mcallV' (g := g) (q0 := 0) (ci := 1) (As := [.int 9, .int 0]) (rest := []) St hK hT hA hP hD hS hl.1 [2] [0, 1] rfl rfl rfl (c_l_put l g lo lc lz2_50 ll lm lg ld fc2_51 9 0 hq53_0) (cwV 2 hts (zgL (zl4 k297 k298 k299 k85) k202) rfl rfl rfl (by decide +kernel) ⟨Nat.le_of_ble_eq_true rfl, Nat.le_of_ble_eq_true rfl⟩) rfl rfl rfl rfl (Nat.le_of_ble_eq_true rfl) dX2_readAtom_184 ⟨(Nat.le_of_ble_eq_true rfl), (Nat.le_of_ble_eq_true rfl)⟩ (fun u_ H locs hq60 hP hD hS => ?_)
                  obtain ⟨lz2_57, fc2_58, q_59⟩ := u_
                  replace hq60 : (0 ≤ lz2_57.toInt ∧ lz2_57.toInt ≤ 400) := hq60
                  have hP : va_P g.1 vwCl (List.flatten [bLT g lt ta lo, bTape g ta ab sz ln kd2_46 bg2_47 nx2_48 ft2_49 fb, bLaw g lo lc lz2_57 ll lm lg ld fc2_58]) H := hP
                  have hD : va_D A (List.flatten [bLT g lt ta lo, bTape g ta ab sz ln kd2_46 bg2_47 nx2_48 ft2_49 fb, bLaw g lo lc lz2_57 ll lm lg ld fc2_58]) := hD
                  refine W.widen (k := 0) (n := 0) (Nat.le_of_ble_eq_true rfl) (Nat.le_of_ble_eq_true rfl) ?_
                  refine W.eq (g2 := F0 m 187 ls [.int q_59]) rfl ?_
                  refine lv_pop hx hb dX2_readAtom_187 rfl ?_
                  refine lv_iconst (v := 1) hx hb dX2_readAtom_188 (by decide) ?_
                  have hP : va_P g.1 vwCl (List.flatten [bLT g lt ta lo, bTape g ta ab sz ln kd2_46 bg2_47 nx2_48 ft2_49 fb, bLaw g lo lc lz2_57 ll lm lg ld fc2_58]) H := hP
                  have hD : va_D A (List.flatten [bLT g lt ta lo, bTape g ta ab sz ln kd2_46 bg2_47 nx2_48 ft2_49 fb, bLaw g lo lc lz2_57 ll lm lg ld fc2_58]) := hD
                  exact mret_z hx hb hr hlocks hS (Nat.le_of_ble_eq_true rfl) (Nat.le_of_ble_eq_true rfl) dX2_readAtom_189 (kd2_46, bg2_47, nx2_48, ft2_49, lz2_57, fc2_58, (1 : Int32)) rfl (by decide) (show (0 ≤ lz2_57.toInt ∧ lz2_57.toInt ≤ 400) ∧ (-1 ≤ ft2_49.toInt) ∧ (0 ≤ nx2_48.toInt ∧ nx2_48.toInt ≤ 400) ∧ (0 ≤ bg2_47.toInt ∧ bg2_47.toInt ≤ 400) ∧ (zKd kd2_46.toInt bg2_47.toInt nx2_48.toInt) ∧ (1 = 0 ∨ 1 = 1) from ⟨hq60, hq53_1, hq53_2, hq53_3, hq53_4, (by decide)⟩) hP hD
            · skip
              refine lv_istore_n (lv' := [(2, .int 1), (0, .ref lt), (1, .int 5)]) hx hb dX2_readAtom_116 rfl hl (by decide) rfl (fun ls hl => ?_)
              refine lv_iload_n hx hb dX2_readAtom_117 rfl (lv_at hl 0 rfl) ?_
              refine lv_if_ne (tgt := 141) hx hb dX2_readAtom_118 (by decide) (fun _ => ?_) (fun c61 => absurd c61 (by decide))
              refine lv_aload_n hx hb dX2_readAtom_141 rfl (lv_at hl 1 rfl) ?_
              refine va_get (D := g.1) (ci := 2) (v := .ref ta) (C := RX2) (T := TX2) (N := 2) hx hb hts izRX2 hown hK hP 0 rfl rfl 0 (by decide) (hts _ k290) (fun x9 h9 => u_same (hts _ k291) x9 h9) rfl dX2_readAtom_142 ?_
              refine mcallV' (g := g) (q0 := 0) (ci := 6) (As := []) (rest := []) St hK hT hA hP hD hS hl.1 [2] [0, 1] rfl rfl rfl (c_t_step l g ta ab sz ln kd2_19 bg2_20 nx2_21 ft2_22 fb hln hq26_2) (cwV 0 hts (zgL (zl4 k296 k275 k276 k277) k271) rfl rfl rfl (by decide +kernel) ⟨Nat.le_of_ble_eq_true rfl, Nat.le_of_ble_eq_true rfl⟩) rfl rfl rfl rfl (Nat.le_of_ble_eq_true rfl) dX2_readAtom_145 ⟨(Nat.le_of_ble_eq_true rfl), (Nat.le_of_ble_eq_true rfl)⟩ (fun u_ H locs hq65 hP hD hS => ?_)
              obtain ⟨kd2_62, bg2_63, nx2_64⟩ := u_
              replace hq65 : (0 ≤ nx2_64.toInt ∧ nx2_64.toInt ≤ 400) ∧ (0 ≤ bg2_63.toInt ∧ bg2_63.toInt ≤ 400) ∧ (zKd kd2_62.toInt bg2_63.toInt nx2_64.toInt) := hq65
              have hP : va_P g.1 vwCl (List.flatten [bLT g lt ta lo, bLaw g lo lc lz2_23 ll lm lg ld fc2_24, bTape g ta ab sz ln kd2_62 bg2_63 nx2_64 ft2_22 fb]) H := hP
              have hD : va_D A (List.flatten [bLT g lt ta lo, bLaw g lo lc lz2_23 ll lm lg ld fc2_24, bTape g ta ab sz ln kd2_62 bg2_63 nx2_64 ft2_22 fb]) := hD
              refine W.widen (k := 0) (n := 0) (Nat.le_of_ble_eq_true rfl) (Nat.le_of_ble_eq_true rfl) ?_
              refine W.eq (g2 := F0 m 148 ls []) rfl ?_
              obtain ⟨hq65_0, hq65_1, hq65_2⟩ := hq65
              refine lv_aload_n hx hb dX2_readAtom_148 rfl (lv_at hl 1 rfl) ?_
              refine va_get (D := g.1) (ci := 2) (v := .ref lo) (C := RX2) (T := TX2) (N := 2) hx hb hts izRX2 hown hK hP 0 rfl rfl 1 (by decide) (hts _ k210) (fun _ h9 => h9) rfl dX2_readAtom_149 ?_
              refine lv_bipush (v := 7) hx hb dX2_readAtom_152 (by decide) ?_
              refine lv_iconst (v := 0) hx hb dX2_readAtom_154 (by decide) ?_
              refine mcallV' (g := g) (q0 := 0) (ci := 1) (As := [.int 7, .int 0]) (rest := []) St hK hT hA hP hD hS hl.1 [1] [0, 2] rfl rfl rfl (c_l_put l g lo lc lz2_23 ll lm lg ld fc2_24 7 0 hq26_0) (cwV 2 hts (zgL (zl4 k297 k298 k299 k85) k202) rfl rfl rfl (by decide +kernel) ⟨Nat.le_of_ble_eq_true rfl, Nat.le_of_ble_eq_true rfl⟩) rfl rfl rfl rfl (Nat.le_of_ble_eq_true rfl) dX2_readAtom_155 ⟨(Nat.le_of_ble_eq_true rfl), (Nat.le_of_ble_eq_true rfl)⟩ (fun u_ H locs hq69 hP hD hS => ?_)
              obtain ⟨lz2_66, fc2_67, q_68⟩ := u_
              replace hq69 : (0 ≤ lz2_66.toInt ∧ lz2_66.toInt ≤ 400) := hq69
              have hP : va_P g.1 vwCl (List.flatten [bLT g lt ta lo, bTape g ta ab sz ln kd2_62 bg2_63 nx2_64 ft2_22 fb, bLaw g lo lc lz2_66 ll lm lg ld fc2_67]) H := hP
              have hD : va_D A (List.flatten [bLT g lt ta lo, bTape g ta ab sz ln kd2_62 bg2_63 nx2_64 ft2_22 fb, bLaw g lo lc lz2_66 ll lm lg ld fc2_67]) := hD
              refine W.widen (k := 0) (n := 0) (Nat.le_of_ble_eq_true rfl) (Nat.le_of_ble_eq_true rfl) ?_
              refine W.eq (g2 := F0 m 158 ls [.int q_68]) rfl ?_
              refine lv_pop hx hb dX2_readAtom_158 rfl ?_
              refine lv_aload_n hx hb dX2_readAtom_159 rfl (lv_at hl 1 rfl) ?_
              refine mcallV' (g := g) (q0 := 0) (ci := 2) (As := []) (rest := []) St hK hT hA hP hD hS hl.1 [0, 1, 2] [] rfl rfl rfl (c_lt_readSum l g lt ta lo ab sz ln kd2_62 bg2_63 nx2_64 ft2_22 fb lc lz2_66 ll lm lg ld fc2_67 hq69 hln hq65_0 hq65_1 hq65_2 hq26_1) (cwV 0 hts (zgL (zl4 k313 k314 k315 k309) k304) rfl rfl rfl (by decide +kernel) ⟨Nat.le_of_ble_eq_true rfl, Nat.le_of_ble_eq_true rfl⟩) rfl rfl rfl rfl (Nat.le_of_ble_eq_true rfl) dX2_readAtom_160 ⟨(Nat.le_of_ble_eq_true rfl), (Nat.le_of_ble_eq_true rfl)⟩ (fun u_ H locs hq77 hP hD hS => ?_)
              obtain ⟨kd2_70, bg2_71, nx2_72, ft2_73, lz2_74, fc2_75, q_76⟩ := u_
              replace hq77 : (0 ≤ lz2_74.toInt ∧ lz2_74.toInt ≤ 400) ∧ (-1 ≤ ft2_73.toInt) ∧ (0 ≤ nx2_72.toInt ∧ nx2_72.toInt ≤ 400) ∧ (0 ≤ bg2_71.toInt ∧ bg2_71.toInt ≤ 400) ∧ (zKd kd2_70.toInt bg2_71.toInt nx2_72.toInt) ∧ (q_76 = 0 ∨ q_76 = 1) := hq77
              have hP : va_P g.1 vwCl (List.flatten [bLT g lt ta lo, bTape g ta ab sz ln kd2_70 bg2_71 nx2_72 ft2_73 fb, bLaw g lo lc lz2_74 ll lm lg ld fc2_75]) H := hP
              have hD : va_D A (List.flatten [bLT g lt ta lo, bTape g ta ab sz ln kd2_70 bg2_71 nx2_72 ft2_73 fb, bLaw g lo lc lz2_74 ll lm lg ld fc2_75]) := hD
              refine W.widen (k := 0) (n := 0) (Nat.le_of_ble_eq_true rfl) (Nat.le_of_ble_eq_true rfl) ?_
              refine W.eq (g2 := F0 m 163 ls [.int q_76]) rfl ?_
              obtain ⟨hq77_0, hq77_1, hq77_2, hq77_3, hq77_4, hq77_5⟩ := hq77
              rcases hq77_5 with rfl | rfl
              · skip
                refine lv_if_ne (tgt := 168) hx hb dX2_readAtom_163 (by decide) (fun c78 => absurd (by decide) c78) (fun _ => ?_)
                refine lv_iconst (v := 0) hx hb dX2_readAtom_166 (by decide) ?_
                have hP : va_P g.1 vwCl (List.flatten [bLT g lt ta lo, bTape g ta ab sz ln kd2_70 bg2_71 nx2_72 ft2_73 fb, bLaw g lo lc lz2_74 ll lm lg ld fc2_75]) H := hP
                have hD : va_D A (List.flatten [bLT g lt ta lo, bTape g ta ab sz ln kd2_70 bg2_71 nx2_72 ft2_73 fb, bLaw g lo lc lz2_74 ll lm lg ld fc2_75]) := hD
                exact mret_z hx hb hr hlocks hS (Nat.le_of_ble_eq_true rfl) (Nat.le_of_ble_eq_true rfl) dX2_readAtom_167 (kd2_70, bg2_71, nx2_72, ft2_73, lz2_74, fc2_75, (0 : Int32)) rfl (by decide) (show (0 ≤ lz2_74.toInt ∧ lz2_74.toInt ≤ 400) ∧ (-1 ≤ ft2_73.toInt) ∧ (0 ≤ nx2_72.toInt ∧ nx2_72.toInt ≤ 400) ∧ (0 ≤ bg2_71.toInt ∧ bg2_71.toInt ≤ 400) ∧ (zKd kd2_70.toInt bg2_71.toInt nx2_72.toInt) ∧ (0 = 0 ∨ 0 = 1) from ⟨hq77_0, hq77_1, hq77_2, hq77_3, hq77_4, (by decide)⟩) hP hD
              · skip
                refine lv_if_ne (tgt := 168) hx hb dX2_readAtom_163 (by decide) (fun _ => ?_) (fun c79 => absurd c79 (by decide))
                refine lv_aload_n hx hb dX2_readAtom_168 rfl (lv_at hl 1 rfl) ?_
                refine va_get (D := g.1) (ci := 2) (v := .ref lo) (C := RX2) (T := TX2) (N := 2) hx hb hts izRX2 hown hK hP 0 rfl rfl 1 (by decide) (hts _ k210) (fun _ h9 => h9) rfl dX2_readAtom_169 ?_
                refine lv_iload_n hx hb dX2_readAtom_172 rfl (lv_at hl 0 rfl) ?_
                refine lv_if_eq (tgt := 181) hx hb dX2_readAtom_173 (by decide) (fun c80 => absurd c80 (by decide)) (fun _ => ?_)
                refine lv_bipush (v := 8) hx hb dX2_readAtom_176 (by decide) ?_
                refine lv_goto (tgt := 183) hx hb dX2_readAtom_178 (by decide) ?_
                refine lv_iconst (v := 0) hx hb dX2_readAtom_183 (by decide) ?_
                refine mcallV' (g := g) (q0 := 0) (ci := 1) (As := [.int 8, .int 0]) (rest := []) St hK hT hA hP hD hS hl.1 [2] [0, 1] rfl rfl rfl (c_l_put l g lo lc lz2_74 ll lm lg ld fc2_75 8 0 hq77_0) (cwV 2 hts (zgL (zl4 k297 k298 k299 k85) k202) rfl rfl rfl (by decide +kernel) ⟨Nat.le_of_ble_eq_true rfl, Nat.le_of_ble_eq_true rfl⟩) rfl rfl rfl rfl (Nat.le_of_ble_eq_true rfl) dX2_readAtom_184 ⟨(Nat.le_of_ble_eq_true rfl), (Nat.le_of_ble_eq_true rfl)⟩ (fun u_ H locs hq84 hP hD hS => ?_)
                obtain ⟨lz2_81, fc2_82, q_83⟩ := u_
                replace hq84 : (0 ≤ lz2_81.toInt ∧ lz2_81.toInt ≤ 400) := hq84
                have hP : va_P g.1 vwCl (List.flatten [bLT g lt ta lo, bTape g ta ab sz ln kd2_70 bg2_71 nx2_72 ft2_73 fb, bLaw g lo lc lz2_81 ll lm lg ld fc2_82]) H := hP
                have hD : va_D A (List.flatten [bLT g lt ta lo, bTape g ta ab sz ln kd2_70 bg2_71 nx2_72 ft2_73 fb, bLaw g lo lc lz2_81 ll lm lg ld fc2_82]) := hD
                refine W.widen (k := 0) (n := 0) (Nat.le_of_ble_eq_true rfl) (Nat.le_of_ble_eq_true rfl) ?_
                refine W.eq (g2 := F0 m 187 ls [.int q_83]) rfl ?_
                refine lv_pop hx hb dX2_readAtom_187 rfl ?_
                refine lv_iconst (v := 1) hx hb dX2_readAtom_188 (by decide) ?_
                have hP : va_P g.1 vwCl (List.flatten [bLT g lt ta lo, bTape g ta ab sz ln kd2_70 bg2_71 nx2_72 ft2_73 fb, bLaw g lo lc lz2_81 ll lm lg ld fc2_82]) H := hP
                have hD : va_D A (List.flatten [bLT g lt ta lo, bTape g ta ab sz ln kd2_70 bg2_71 nx2_72 ft2_73 fb, bLaw g lo lc lz2_81 ll lm lg ld fc2_82]) := hD
                exact mret_z hx hb hr hlocks hS (Nat.le_of_ble_eq_true rfl) (Nat.le_of_ble_eq_true rfl) dX2_readAtom_189 (kd2_70, bg2_71, nx2_72, ft2_73, lz2_81, fc2_82, (1 : Int32)) rfl (by decide) (show (0 ≤ lz2_81.toInt ∧ lz2_81.toInt ≤ 400) ∧ (-1 ≤ ft2_73.toInt) ∧ (0 ≤ nx2_72.toInt ∧ nx2_72.toInt ≤ 400) ∧ (0 ≤ bg2_71.toInt ∧ bg2_71.toInt ≤ 400) ∧ (zKd kd2_70.toInt bg2_71.toInt nx2_72.toInt) ∧ (1 = 0 ∨ 1 = 1) from ⟨hq84, hq77_1, hq77_2, hq77_3, hq77_4, (by decide)⟩) hP hD
        · skip
          refine lv_if_eq (tgt := 98) hx hb dX2_readAtom_82 (by decide) (fun c85 => absurd c85 (by decide)) (fun _ => ?_)
          refine lv_aload_n hx hb dX2_readAtom_85 rfl (lv_at hl 0 rfl) ?_
          refine va_get (D := g.1) (ci := 2) (v := .ref lo) (C := RX2) (T := TX2) (N := 2) hx hb hts izRX2 hown hK hP 0 rfl rfl 1 (by decide) (hts _ k210) (fun _ h9 => h9) rfl dX2_readAtom_86 ?_
          refine lv_bipush (v := 11) hx hb dX2_readAtom_89 (by decide) ?_
          refine lv_iconst (v := 0) hx hb dX2_readAtom_91 (by decide) ?_
          refine mcallV' (g := g) (q0 := 0) (ci := 1) (As := [.int 11, .int 0]) (rest := []) St hK hT hA hP hD hS hl.1 [1] [0, 2] rfl rfl rfl (c_l_put l g lo lc lz ll lm lg ld fc 11 0 b_lz) (cwV 2 hts (zgL (zl4 k297 k298 k299 k85) k202) rfl rfl rfl (by decide +kernel) ⟨Nat.le_of_ble_eq_true rfl, Nat.le_of_ble_eq_true rfl⟩) rfl rfl rfl rfl (Nat.le_of_ble_eq_true rfl) dX2_readAtom_92 ⟨(Nat.le_of_ble_eq_true rfl), (Nat.le_of_ble_eq_true rfl)⟩ (fun u_ H locs hq89 hP hD hS => ?_)
          obtain ⟨lz2_86, fc2_87, q_88⟩ := u_
          replace hq89 : (0 ≤ lz2_86.toInt ∧ lz2_86.toInt ≤ 400) := hq89
          have hP : va_P g.1 vwCl (List.flatten [bLT g lt ta lo, bTape g ta ab sz ln kd2_13 bg2_14 nx2_15 ft fb, bLaw g lo lc lz2_86 ll lm lg ld fc2_87]) H := hP
          have hD : va_D A (List.flatten [bLT g lt ta lo, bTape g ta ab sz ln kd2_13 bg2_14 nx2_15 ft fb, bLaw g lo lc lz2_86 ll lm lg ld fc2_87]) := hD
          refine W.widen (k := 0) (n := 0) (Nat.le_of_ble_eq_true rfl) (Nat.le_of_ble_eq_true rfl) ?_
          refine W.eq (g2 := F0 m 95 ls [.int q_88]) rfl ?_
          refine lv_pop hx hb dX2_readAtom_95 rfl ?_
          refine lv_iconst (v := 1) hx hb dX2_readAtom_96 (by decide) ?_
          have hP : va_P g.1 vwCl (List.flatten [bLT g lt ta lo, bTape g ta ab sz ln kd2_13 bg2_14 nx2_15 ft fb, bLaw g lo lc lz2_86 ll lm lg ld fc2_87]) H := hP
          have hD : va_D A (List.flatten [bLT g lt ta lo, bTape g ta ab sz ln kd2_13 bg2_14 nx2_15 ft fb, bLaw g lo lc lz2_86 ll lm lg ld fc2_87]) := hD
          exact mret_z hx hb hr hlocks hS (Nat.le_of_ble_eq_true rfl) (Nat.le_of_ble_eq_true rfl) dX2_readAtom_97 (kd2_13, bg2_14, nx2_15, ft, lz2_86, fc2_87, (1 : Int32)) rfl (by decide) (show (0 ≤ lz2_86.toInt ∧ lz2_86.toInt ≤ 400) ∧ (-1 ≤ ft.toInt) ∧ (0 ≤ nx2_15.toInt ∧ nx2_15.toInt ≤ 400) ∧ (0 ≤ bg2_14.toInt ∧ bg2_14.toInt ≤ 400) ∧ (zKd kd2_13.toInt bg2_14.toInt nx2_15.toInt) ∧ (1 = 0 ∨ 1 = 1) from ⟨hq89, hft, hq17_0, hq17_1, hq17_2, (by decide)⟩) hP hD
      · skip
        refine lv_if_eq (tgt := 73) hx hb dX2_readAtom_57 (by decide) (fun c90 => absurd c90 (by decide)) (fun _ => ?_)
        refine lv_aload_n hx hb dX2_readAtom_60 rfl (lv_at hl 0 rfl) ?_
        refine va_get (D := g.1) (ci := 2) (v := .ref lo) (C := RX2) (T := TX2) (N := 2) hx hb hts izRX2 hown hK hP 0 rfl rfl 1 (by decide) (hts _ k210) (fun _ h9 => h9) rfl dX2_readAtom_61 ?_
        refine lv_bipush (v := 10) hx hb dX2_readAtom_64 (by decide) ?_
        refine lv_iconst (v := 0) hx hb dX2_readAtom_66 (by decide) ?_
        refine mcallV' (g := g) (q0 := 0) (ci := 1) (As := [.int 10, .int 0]) (rest := []) St hK hT hA hP hD hS hl.1 [1] [0, 2] rfl rfl rfl (c_l_put l g lo lc lz ll lm lg ld fc 10 0 b_lz) (cwV 2 hts (zgL (zl4 k297 k298 k299 k85) k202) rfl rfl rfl (by decide +kernel) ⟨Nat.le_of_ble_eq_true rfl, Nat.le_of_ble_eq_true rfl⟩) rfl rfl rfl rfl (Nat.le_of_ble_eq_true rfl) dX2_readAtom_67 ⟨(Nat.le_of_ble_eq_true rfl), (Nat.le_of_ble_eq_true rfl)⟩ (fun u_ H locs hq94 hP hD hS => ?_)
        obtain ⟨lz2_91, fc2_92, q_93⟩ := u_
        replace hq94 : (0 ≤ lz2_91.toInt ∧ lz2_91.toInt ≤ 400) := hq94
        have hP : va_P g.1 vwCl (List.flatten [bLT g lt ta lo, bTape g ta ab sz ln kd2_7 bg2_8 nx2_9 ft fb, bLaw g lo lc lz2_91 ll lm lg ld fc2_92]) H := hP
        have hD : va_D A (List.flatten [bLT g lt ta lo, bTape g ta ab sz ln kd2_7 bg2_8 nx2_9 ft fb, bLaw g lo lc lz2_91 ll lm lg ld fc2_92]) := hD
        refine W.widen (k := 0) (n := 0) (Nat.le_of_ble_eq_true rfl) (Nat.le_of_ble_eq_true rfl) ?_
        refine W.eq (g2 := F0 m 70 ls [.int q_93]) rfl ?_
        refine lv_pop hx hb dX2_readAtom_70 rfl ?_
        refine lv_iconst (v := 1) hx hb dX2_readAtom_71 (by decide) ?_
        have hP : va_P g.1 vwCl (List.flatten [bLT g lt ta lo, bTape g ta ab sz ln kd2_7 bg2_8 nx2_9 ft fb, bLaw g lo lc lz2_91 ll lm lg ld fc2_92]) H := hP
        have hD : va_D A (List.flatten [bLT g lt ta lo, bTape g ta ab sz ln kd2_7 bg2_8 nx2_9 ft fb, bLaw g lo lc lz2_91 ll lm lg ld fc2_92]) := hD
        exact mret_z hx hb hr hlocks hS (Nat.le_of_ble_eq_true rfl) (Nat.le_of_ble_eq_true rfl) dX2_readAtom_72 (kd2_7, bg2_8, nx2_9, ft, lz2_91, fc2_92, (1 : Int32)) rfl (by decide) (show (0 ≤ lz2_91.toInt ∧ lz2_91.toInt ≤ 400) ∧ (-1 ≤ ft.toInt) ∧ (0 ≤ nx2_9.toInt ∧ nx2_9.toInt ≤ 400) ∧ (0 ≤ bg2_8.toInt ∧ bg2_8.toInt ≤ 400) ∧ (zKd kd2_7.toInt bg2_8.toInt nx2_9.toInt) ∧ (1 = 0 ∨ 1 = 1) from ⟨hq94, hft, hq11_0, hq11_1, hq11_2, (by decide)⟩) hP hD
    · skip
      refine lv_if_eq (tgt := 48) hx hb dX2_readAtom_21 (by decide) (fun c95 => absurd c95 (by decide)) (fun _ => ?_)
      refine lv_iload_n hx hb dX2_readAtom_24 rfl (lv_at hl 1 rfl) ?_
      refine lv_bipush (v := 6) hx hb dX2_readAtom_25 (by decide) ?_
      refine lv_icmp_ge (tgt := 40) hx hb dX2_readAtom_27 (by decide) (fun c96 => absurd c96 (by decide)) (fun _ => ?_)
      refine lv_aload_n hx hb dX2_readAtom_30 rfl (lv_at hl 0 rfl) ?_
      refine lv_iload_n hx hb dX2_readAtom_31 rfl (lv_at hl 1 rfl) ?_
      refine lv_iconst (v := 1) hx hb dX2_readAtom_32 (by decide) ?_
      refine lv_iadd hx hb dX2_readAtom_33 ?_
      refine ztop (r := 6) (by decide) ?_
      refine mcallV' (g := g) (q0 := 0) (ci := 2) (As := [.int 6]) (rest := []) St hK hT hA hP hD hS hl.1 [0, 2, 1] [] rfl rfl rfl (c_lt_readDeeper6 l g lt ta lo ab sz ln kd bg nx ft fb lc lz ll lm lg ld fc b_lz hln hnx hbg hkd hft) (cwV 1 hts (zgL (zl4 k306 k307 k308 k309) k323) rfl rfl rfl (by decide +kernel) ⟨Nat.le_of_ble_eq_true rfl, Nat.le_of_ble_eq_true rfl⟩) rfl rfl rfl rfl (Nat.le_of_ble_eq_true rfl) dX2_readAtom_34 ⟨(Nat.le_of_ble_eq_true rfl), (Nat.le_of_ble_eq_true rfl)⟩ (fun u_ H locs hq104 hP hD hS => ?_)
      obtain ⟨kd2_97, bg2_98, nx2_99, ft2_100, lz2_101, fc2_102, q_103⟩ := u_
      replace hq104 : (0 ≤ lz2_101.toInt ∧ lz2_101.toInt ≤ 400) ∧ (-1 ≤ ft2_100.toInt) ∧ (0 ≤ nx2_99.toInt ∧ nx2_99.toInt ≤ 400) ∧ (0 ≤ bg2_98.toInt ∧ bg2_98.toInt ≤ 400) ∧ (zKd kd2_97.toInt bg2_98.toInt nx2_99.toInt) ∧ (q_103 = 0 ∨ q_103 = 1) := hq104
      have hP : va_P g.1 vwCl (List.flatten [bLT g lt ta lo, bTape g ta ab sz ln kd2_97 bg2_98 nx2_99 ft2_100 fb, bLaw g lo lc lz2_101 ll lm lg ld fc2_102]) H := hP
      have hD : va_D A (List.flatten [bLT g lt ta lo, bTape g ta ab sz ln kd2_97 bg2_98 nx2_99 ft2_100 fb, bLaw g lo lc lz2_101 ll lm lg ld fc2_102]) := hD
      refine W.widen (k := 0) (n := 0) (Nat.le_of_ble_eq_true rfl) (Nat.le_of_ble_eq_true rfl) ?_
      refine W.eq (g2 := F0 m 37 ls [.int q_103]) rfl ?_
      obtain ⟨hq104_0, hq104_1, hq104_2, hq104_3, hq104_4, hq104_5⟩ := hq104
      rcases hq104_5 with rfl | rfl
      · skip
        refine lv_goto (tgt := 47) hx hb dX2_readAtom_37 (by decide) ?_
        have hP : va_P g.1 vwCl (List.flatten [bLT g lt ta lo, bTape g ta ab sz ln kd2_97 bg2_98 nx2_99 ft2_100 fb, bLaw g lo lc lz2_101 ll lm lg ld fc2_102]) H := hP
        have hD : va_D A (List.flatten [bLT g lt ta lo, bTape g ta ab sz ln kd2_97 bg2_98 nx2_99 ft2_100 fb, bLaw g lo lc lz2_101 ll lm lg ld fc2_102]) := hD
        exact mret_z hx hb hr hlocks hS (Nat.le_of_ble_eq_true rfl) (Nat.le_of_ble_eq_true rfl) dX2_readAtom_47 (kd2_97, bg2_98, nx2_99, ft2_100, lz2_101, fc2_102, (0 : Int32)) rfl (by decide) (show (0 ≤ lz2_101.toInt ∧ lz2_101.toInt ≤ 400) ∧ (-1 ≤ ft2_100.toInt) ∧ (0 ≤ nx2_99.toInt ∧ nx2_99.toInt ≤ 400) ∧ (0 ≤ bg2_98.toInt ∧ bg2_98.toInt ≤ 400) ∧ (zKd kd2_97.toInt bg2_98.toInt nx2_99.toInt) ∧ (0 = 0 ∨ 0 = 1) from ⟨hq104_0, hq104_1, hq104_2, hq104_3, hq104_4, (by decide)⟩) hP hD
      · skip
        refine lv_goto (tgt := 47) hx hb dX2_readAtom_37 (by decide) ?_
        have hP : va_P g.1 vwCl (List.flatten [bLT g lt ta lo, bTape g ta ab sz ln kd2_97 bg2_98 nx2_99 ft2_100 fb, bLaw g lo lc lz2_101 ll lm lg ld fc2_102]) H := hP
        have hD : va_D A (List.flatten [bLT g lt ta lo, bTape g ta ab sz ln kd2_97 bg2_98 nx2_99 ft2_100 fb, bLaw g lo lc lz2_101 ll lm lg ld fc2_102]) := hD
        exact mret_z hx hb hr hlocks hS (Nat.le_of_ble_eq_true rfl) (Nat.le_of_ble_eq_true rfl) dX2_readAtom_47 (kd2_97, bg2_98, nx2_99, ft2_100, lz2_101, fc2_102, (1 : Int32)) rfl (by decide) (show (0 ≤ lz2_101.toInt ∧ lz2_101.toInt ≤ 400) ∧ (-1 ≤ ft2_100.toInt) ∧ (0 ≤ nx2_99.toInt ∧ nx2_99.toInt ≤ 400) ∧ (0 ≤ bg2_98.toInt ∧ bg2_98.toInt ≤ 400) ∧ (zKd kd2_97.toInt bg2_98.toInt nx2_99.toInt) ∧ (1 = 0 ∨ 1 = 1) from ⟨hq104_0, hq104_1, hq104_2, hq104_3, hq104_4, (by decide)⟩) hP hD
  · skip
    refine lv_if_ne (tgt := 24) hx hb dX2_readAtom_9 (by decide) (fun _ => ?_) (fun c105 => absurd c105 (by decide))
    refine lv_iload_n hx hb dX2_readAtom_24 rfl (lv_at hl 1 rfl) ?_
    refine lv_bipush (v := 6) hx hb dX2_readAtom_25 (by decide) ?_
    refine lv_icmp_ge (tgt := 40) hx hb dX2_readAtom_27 (by decide) (fun c106 => absurd c106 (by decide)) (fun _ => ?_)
    refine lv_aload_n hx hb dX2_readAtom_30 rfl (lv_at hl 0 rfl) ?_
    refine lv_iload_n hx hb dX2_readAtom_31 rfl (lv_at hl 1 rfl) ?_
    refine lv_iconst (v := 1) hx hb dX2_readAtom_32 (by decide) ?_
    refine lv_iadd hx hb dX2_readAtom_33 ?_
    refine ztop (r := 6) (by decide) ?_
    refine mcallV' (g := g) (q0 := 0) (ci := 2) (As := [.int 6]) (rest := []) St hK hT hA hP hD hS hl.1 [0, 2, 1] [] rfl rfl rfl (c_lt_readDeeper6 l g lt ta lo ab sz ln kd bg nx ft fb lc lz ll lm lg ld fc b_lz hln hnx hbg hkd hft) (cwV 1 hts (zgL (zl4 k306 k307 k308 k309) k323) rfl rfl rfl (by decide +kernel) ⟨Nat.le_of_ble_eq_true rfl, Nat.le_of_ble_eq_true rfl⟩) rfl rfl rfl rfl (Nat.le_of_ble_eq_true rfl) dX2_readAtom_34 ⟨(Nat.le_of_ble_eq_true rfl), (Nat.le_of_ble_eq_true rfl)⟩ (fun u_ H locs hq114 hP hD hS => ?_)
    obtain ⟨kd2_107, bg2_108, nx2_109, ft2_110, lz2_111, fc2_112, q_113⟩ := u_
    replace hq114 : (0 ≤ lz2_111.toInt ∧ lz2_111.toInt ≤ 400) ∧ (-1 ≤ ft2_110.toInt) ∧ (0 ≤ nx2_109.toInt ∧ nx2_109.toInt ≤ 400) ∧ (0 ≤ bg2_108.toInt ∧ bg2_108.toInt ≤ 400) ∧ (zKd kd2_107.toInt bg2_108.toInt nx2_109.toInt) ∧ (q_113 = 0 ∨ q_113 = 1) := hq114
    have hP : va_P g.1 vwCl (List.flatten [bLT g lt ta lo, bTape g ta ab sz ln kd2_107 bg2_108 nx2_109 ft2_110 fb, bLaw g lo lc lz2_111 ll lm lg ld fc2_112]) H := hP
    have hD : va_D A (List.flatten [bLT g lt ta lo, bTape g ta ab sz ln kd2_107 bg2_108 nx2_109 ft2_110 fb, bLaw g lo lc lz2_111 ll lm lg ld fc2_112]) := hD
    refine W.widen (k := 0) (n := 0) (Nat.le_of_ble_eq_true rfl) (Nat.le_of_ble_eq_true rfl) ?_
    refine W.eq (g2 := F0 m 37 ls [.int q_113]) rfl ?_
    obtain ⟨hq114_0, hq114_1, hq114_2, hq114_3, hq114_4, hq114_5⟩ := hq114
    rcases hq114_5 with rfl | rfl
    · skip
      refine lv_goto (tgt := 47) hx hb dX2_readAtom_37 (by decide) ?_
      have hP : va_P g.1 vwCl (List.flatten [bLT g lt ta lo, bTape g ta ab sz ln kd2_107 bg2_108 nx2_109 ft2_110 fb, bLaw g lo lc lz2_111 ll lm lg ld fc2_112]) H := hP
      have hD : va_D A (List.flatten [bLT g lt ta lo, bTape g ta ab sz ln kd2_107 bg2_108 nx2_109 ft2_110 fb, bLaw g lo lc lz2_111 ll lm lg ld fc2_112]) := hD
      exact mret_z hx hb hr hlocks hS (Nat.le_of_ble_eq_true rfl) (Nat.le_of_ble_eq_true rfl) dX2_readAtom_47 (kd2_107, bg2_108, nx2_109, ft2_110, lz2_111, fc2_112, (0 : Int32)) rfl (by decide) (show (0 ≤ lz2_111.toInt ∧ lz2_111.toInt ≤ 400) ∧ (-1 ≤ ft2_110.toInt) ∧ (0 ≤ nx2_109.toInt ∧ nx2_109.toInt ≤ 400) ∧ (0 ≤ bg2_108.toInt ∧ bg2_108.toInt ≤ 400) ∧ (zKd kd2_107.toInt bg2_108.toInt nx2_109.toInt) ∧ (0 = 0 ∨ 0 = 1) from ⟨hq114_0, hq114_1, hq114_2, hq114_3, hq114_4, (by decide)⟩) hP hD
    · skip
      refine lv_goto (tgt := 47) hx hb dX2_readAtom_37 (by decide) ?_
      have hP : va_P g.1 vwCl (List.flatten [bLT g lt ta lo, bTape g ta ab sz ln kd2_107 bg2_108 nx2_109 ft2_110 fb, bLaw g lo lc lz2_111 ll lm lg ld fc2_112]) H := hP
      have hD : va_D A (List.flatten [bLT g lt ta lo, bTape g ta ab sz ln kd2_107 bg2_108 nx2_109 ft2_110 fb, bLaw g lo lc lz2_111 ll lm lg ld fc2_112]) := hD
      exact mret_z hx hb hr hlocks hS (Nat.le_of_ble_eq_true rfl) (Nat.le_of_ble_eq_true rfl) dX2_readAtom_47 (kd2_107, bg2_108, nx2_109, ft2_110, lz2_111, fc2_112, (1 : Int32)) rfl (by decide) (show (0 ≤ lz2_111.toInt ∧ lz2_111.toInt ≤ 400) ∧ (-1 ≤ ft2_110.toInt) ∧ (0 ≤ nx2_109.toInt ∧ nx2_109.toInt ≤ 400) ∧ (0 ≤ bg2_108.toInt ∧ bg2_108.toInt ≤ 400) ∧ (zKd kd2_107.toInt bg2_108.toInt nx2_109.toInt) ∧ (1 = 0 ∨ 1 = 1) from ⟨hq114_0, hq114_1, hq114_2, hq114_3, hq114_4, (by decide)⟩) hP hD
set_option maxRecDepth 100000 in
set_option maxHeartbeats 4000000 in
theorem c_lt_readCondition5 (l : Launch) (g : zG) (lt : Nat) (ta : Nat) (lo : Nat) (ab : Nat) (sz : Int32) (ln : Int32) (kd : Int32) (bg : Int32) (nx : Int32) (ft : Int32) (fb : Nat → Int32) (lc : Nat) (lz : Int32) (ll : Int32) (lm : Int32) (lg : Int32) (ld : Int32) (fc : Nat → Int32) (b_lz : 0 ≤ lz.toInt ∧ lz.toInt ≤ 400) (hln : 0 ≤ ln.toInt ∧ ln.toInt ≤ 400) (hnx : 0 ≤ nx.toInt ∧ nx.toInt ≤ 400) (hbg : 0 ≤ bg.toInt ∧ bg.toInt ≤ 400) (hkd : zKd kd.toInt bg.toInt nx.toInt) (hft : -1 ≤ ft.toInt) : zM' g l yX2_readCondition (Cond.code yX2_readCondition cX2_readCondition 5 (some .boolean) :: zB) ({ frames := 10, cells := 0, slots := 0, locals := 219 } : Room) [.ref lt, .int 5] [bLT g lt ta lo, bTape g ta ab sz ln kd bg nx ft fb, bLaw g lo lc lz ll lm lg ld fc] (fun u : Int32 × Int32 × Int32 × Int32 × Int32 × (Nat → Int32) × Int32 => (fun (kd2 : Int32) (bg2 : Int32) (nx2 : Int32) (ft2 : Int32) (lz2 : Int32) (fc2 : Nat → Int32) (q : Int32) => some (.int q)) (u.1) (u.2.1) (u.2.2.1) (u.2.2.2.1) (u.2.2.2.2.1) (u.2.2.2.2.2.1) (u.2.2.2.2.2.2)) (fun u : Int32 × Int32 × Int32 × Int32 × Int32 × (Nat → Int32) × Int32 => (fun (kd2 : Int32) (bg2 : Int32) (nx2 : Int32) (ft2 : Int32) (lz2 : Int32) (fc2 : Nat → Int32) (q : Int32) => (0 ≤ lz2.toInt ∧ lz2.toInt ≤ 400) ∧ (-1 ≤ ft2.toInt) ∧ (0 ≤ nx2.toInt ∧ nx2.toInt ≤ 400) ∧ (0 ≤ bg2.toInt ∧ bg2.toInt ≤ 400) ∧ (zKd kd2.toInt bg2.toInt nx2.toInt) ∧ (q = 0 ∨ q = 1)) (u.1) (u.2.1) (u.2.2.1) (u.2.2.2.1) (u.2.2.2.2.1) (u.2.2.2.2.2.1) (u.2.2.2.2.2.2)) (fun u : Int32 × Int32 × Int32 × Int32 × Int32 × (Nat → Int32) × Int32 => (fun (kd2 : Int32) (bg2 : Int32) (nx2 : Int32) (ft2 : Int32) (lz2 : Int32) (fc2 : Nat → Int32) (q : Int32) => [bLT g lt ta lo, bTape g ta ab sz ln kd2 bg2 nx2 ft2 fb, bLaw g lo lc lz2 ll lm lg ld fc2]) (u.1) (u.2.1) (u.2.2.1) (u.2.2.2.1) (u.2.2.2.2.1) (u.2.2.2.2.2.1) (u.2.2.2.2.2.2)) := by
  refine zM'.of (cc := cX2_readCondition) (maxL := 5) (rt := (some .boolean)) (by decide) rfl (Nat.le_of_ble_eq_true rfl) ?_
  intro p e s m args below meth c A ls St hr hlocks hin hK hT hA hP hD hS hl
  obtain ⟨hx, hb, hml, hown, hts⟩ := id St
  have hl : lv_has ls 5 [(0, .ref lt), (1, .int 5)] := hl
  refine lv_iconst (v := (-1)) hx hb dX2_readCondition_0 (by decide) ?_
  refine lv_istore_n (lv' := [(2, .int (-1)), (0, .ref lt), (1, .int 5)]) hx hb dX2_readCondition_1 rfl hl (by decide) rfl (fun ls hl => ?_)
  refine lv_iconst (v := (-1)) hx hb dX2_readCondition_2 (by decide) ?_
  refine lv_istore_n (lv' := [(3, .int (-1)), (2, .int (-1)), (0, .ref lt), (1, .int 5)]) hx hb dX2_readCondition_3 rfl hl (by decide) rfl (fun ls hl => ?_)
  refine lv_iconst (v := 0) hx hb dX2_readCondition_4 (by decide) ?_
  refine lv_istore (lv' := [(4, .int 0), (3, .int (-1)), (2, .int (-1)), (0, .ref lt), (1, .int 5)]) hx hb dX2_readCondition_5 hl (by decide) rfl (fun ls hl => ?_)
  have hl := lv_sub (l' := [(0, .ref lt), (1, .int 5), (2, .int (-1)), (3, .int (-1)), (4, .int 0)]) hl [3, 4, 2, 1, 0] rfl
  have LP7_16 : ∀ (kf : Nat) (x_1 : Int32) (x_2 : Int32) (x_3 : Int32) (x_4 : Int32) (x_5 : Int32) (x_6 : Int32) (x_7 : Int32) (x_8 : Int32) (fc_9 : Nat → Int32), (0 ≤ x_3.toInt ∧ x_3.toInt ≤ 400) → (0 ≤ x_5.toInt ∧ x_5.toInt ≤ 400) → (0 ≤ x_6.toInt ∧ x_6.toInt ≤ 400) → ((-1) ≤ x_7.toInt) → (0 ≤ x_8.toInt ∧ x_8.toInt ≤ 400) → (zKd x_4.toInt x_5.toInt x_6.toInt) → ∀ (H : Heap) (locs : List Loc) (ls : Array Slot), ((401 - x_3.toInt).toNat) < kf → va_P g.1 vwCl (List.flatten [bLT g lt ta lo, bTape g ta ab sz ln x_4 x_5 x_6 x_7 fb, bLaw g lo lc x_8 ll lm lg ld fc_9]) H → va_D A (List.flatten [bLT g lt ta lo, bTape g ta ab sz ln x_4 x_5 x_6 x_7 fb, bLaw g lo lc x_8 ll lm lg ld fc_9]) → va_S A s.heap H locs → lv_has ls 5 [(0, .ref lt), (1, .int 5), (2, .int x_1), (3, .int x_2), (4, .int x_3)] → W p l e ({ frames := 10, cells := 0, slots := 0, locals := 219 } : Room) s m args below meth c H locs (0) (0) (zF g (fun u : Int32 × Int32 × Int32 × Int32 × Int32 × (Nat → Int32) × Int32 => (fun (kd2 : Int32) (bg2 : Int32) (nx2 : Int32) (ft2 : Int32) (lz2 : Int32) (fc2 : Nat → Int32) (q : Int32) => some (.int q)) (u.1) (u.2.1) (u.2.2.1) (u.2.2.2.1) (u.2.2.2.2.1) (u.2.2.2.2.2.1) (u.2.2.2.2.2.2)) (fun u : Int32 × Int32 × Int32 × Int32 × Int32 × (Nat → Int32) × Int32 => (fun (kd2 : Int32) (bg2 : Int32) (nx2 : Int32) (ft2 : Int32) (lz2 : Int32) (fc2 : Nat → Int32) (q : Int32) => (0 ≤ lz2.toInt ∧ lz2.toInt ≤ 400) ∧ (-1 ≤ ft2.toInt) ∧ (0 ≤ nx2.toInt ∧ nx2.toInt ≤ 400) ∧ (0 ≤ bg2.toInt ∧ bg2.toInt ≤ 400) ∧ (zKd kd2.toInt bg2.toInt nx2.toInt) ∧ (q = 0 ∨ q = 1)) (u.1) (u.2.1) (u.2.2.1) (u.2.2.2.1) (u.2.2.2.2.1) (u.2.2.2.2.2.1) (u.2.2.2.2.2.2)) (fun u : Int32 × Int32 × Int32 × Int32 × Int32 × (Nat → Int32) × Int32 => (fun (kd2 : Int32) (bg2 : Int32) (nx2 : Int32) (ft2 : Int32) (lz2 : Int32) (fc2 : Nat → Int32) (q : Int32) => [bLT g lt ta lo, bTape g ta ab sz ln kd2 bg2 nx2 ft2 fb, bLaw g lo lc lz2 ll lm lg ld fc2]) (u.1) (u.2.1) (u.2.2.1) (u.2.2.2.1) (u.2.2.2.2.1) (u.2.2.2.2.2.1) (u.2.2.2.2.2.2)) ({ frames := 10, cells := 0, slots := 0, locals := 219 } : Room) below args s A) (F0 m 7 ls []) := by
    intro kf
    induction kf with
    | zero => intro x_1 x_2 x_3 x_4 x_5 x_6 x_7 x_8 fc_9 i10 i11 i12 i13 i14 i15 H locs ls hk; exact absurd hk (Nat.not_lt_zero _)
    | succ kf ih7_17 =>
      intro x_1 x_2 x_3 x_4 x_5 x_6 x_7 x_8 fc_9 i10 i11 i12 i13 i14 i15 H locs ls hk7_17 hP hD hS hl
      refine lv_iload hx hb dX2_readCondition_7 (lv_at hl 4 rfl) ?_
      refine lv_sipush (v := 400) hx hb dX2_readCondition_9 (by decide) ?_
      refine lv_icmp_ge (tgt := 100) hx hb dX2_readCondition_12 (by decide) (fun cb9 => ?_) (fun cb9 => ?_)
      · skip
        have c18 : 400 ≤ x_3.toInt := zle cb9 (by decide) rfl
        have n19 : 400 ≤ x_3.toInt := Int.le_trans (Int.le_refl _) c18
        refine lv_aload_n hx hb dX2_readCondition_100 rfl (lv_at hl 0 rfl) ?_
        refine va_get (D := g.1) (ci := 2) (v := .ref ta) (C := RX2) (T := TX2) (N := 2) hx hb hts izRX2 hown hK hP 0 rfl rfl 0 (by decide) (hts _ k290) (fun x9 h9 => u_same (hts _ k291) x9 h9) rfl dX2_readCondition_101 ?_
        refine mcallV' (g := g) (q0 := 0) (ci := 6) (As := []) (rest := []) St hK hT hA hP hD hS hl.1 [1] [0, 2] rfl rfl rfl (c_t_refuse l g ta ab sz ln x_4 x_5 x_6 x_7 fb hln i12 i11 i15 i13) (cwV 0 hts (zgL (zl4 k303 k279 k280 k277) k269) rfl rfl rfl (by decide +kernel) ⟨Nat.le_of_ble_eq_true rfl, Nat.le_of_ble_eq_true rfl⟩) rfl rfl rfl rfl (Nat.le_of_ble_eq_true rfl) dX2_readCondition_104 ⟨(Nat.le_of_ble_eq_true rfl), (Nat.le_of_ble_eq_true rfl)⟩ (fun ft2_20 H locs hq21 hP hD hS => ?_)
        replace hq21 : (-1 ≤ ft2_20.toInt) := hq21
        have hP : va_P g.1 vwCl (List.flatten [bLT g lt ta lo, bLaw g lo lc x_8 ll lm lg ld fc_9, bTape g ta ab sz ln x_4 x_5 x_6 ft2_20 fb]) H := hP
        have hD : va_D A (List.flatten [bLT g lt ta lo, bLaw g lo lc x_8 ll lm lg ld fc_9, bTape g ta ab sz ln x_4 x_5 x_6 ft2_20 fb]) := hD
        refine W.widen (k := 0) (n := 0) (Nat.le_of_ble_eq_true rfl) (Nat.le_of_ble_eq_true rfl) ?_
        refine W.eq (g2 := F0 m 107 ls [.int 0]) rfl ?_
        have hP : va_P g.1 vwCl (List.flatten [bLT g lt ta lo, bLaw g lo lc x_8 ll lm lg ld fc_9, bTape g ta ab sz ln x_4 x_5 x_6 ft2_20 fb]) H := hP
        have hD : va_D A (List.flatten [bLT g lt ta lo, bLaw g lo lc x_8 ll lm lg ld fc_9, bTape g ta ab sz ln x_4 x_5 x_6 ft2_20 fb]) := hD
        obtain ⟨hP, hD⟩ := zord (g := g) (Bs' := [bLT g lt ta lo, bTape g ta ab sz ln x_4 x_5 x_6 ft2_20 fb, bLaw g lo lc x_8 ll lm lg ld fc_9]) [0, 2, 1] rfl rfl hP hD
        exact mret_z hx hb hr hlocks hS (Nat.le_of_ble_eq_true rfl) (Nat.le_of_ble_eq_true rfl) dX2_readCondition_107 (x_4, x_5, x_6, ft2_20, x_8, fc_9, (0 : Int32)) rfl (by decide) (show (0 ≤ x_8.toInt ∧ x_8.toInt ≤ 400) ∧ (-1 ≤ ft2_20.toInt) ∧ (0 ≤ x_6.toInt ∧ x_6.toInt ≤ 400) ∧ (0 ≤ x_5.toInt ∧ x_5.toInt ≤ 400) ∧ (zKd x_4.toInt x_5.toInt x_6.toInt) ∧ (0 = 0 ∨ 0 = 1) from ⟨i14, hq21, i12, i11, i15, (by decide)⟩) hP hD
      · skip
        have c22 : x_3.toInt < 400 := zlti (Int32.not_le.mp cb9) rfl (by decide)
        have n23 : x_3.toInt ≤ 399 := zL1 (b := 400) c22 (Int.le_refl _) (by decide)
        refine lv_aload_n hx hb dX2_readCondition_15 rfl (lv_at hl 0 rfl) ?_
        refine lv_iload_n hx hb dX2_readCondition_16 rfl (lv_at hl 1 rfl) ?_
        refine mcallV' (g := g) (q0 := 0) (ci := 2) (As := [.int 5]) (rest := []) St hK hT hA hP hD hS hl.1 [0, 1, 2] [] rfl rfl rfl (c_lt_readAtom5 l g lt ta lo ab sz ln x_4 x_5 x_6 x_7 fb lc x_8 ll lm lg ld fc_9 i14 hln i12 i11 i15 i13) (cwV 1 hts (zgL (zl4 k317 k318 k319 k309) k327) rfl rfl rfl (by decide +kernel) ⟨Nat.le_of_ble_eq_true rfl, Nat.le_of_ble_eq_true rfl⟩) rfl rfl rfl rfl (Nat.le_of_ble_eq_true rfl) dX2_readCondition_17 ⟨(Nat.le_of_ble_eq_true rfl), (Nat.le_of_ble_eq_true rfl)⟩ (fun u_ H locs hq31 hP hD hS => ?_)
        obtain ⟨kd2_24, bg2_25, nx2_26, ft2_27, lz2_28, fc2_29, q_30⟩ := u_
        replace hq31 : (0 ≤ lz2_28.toInt ∧ lz2_28.toInt ≤ 400) ∧ (-1 ≤ ft2_27.toInt) ∧ (0 ≤ nx2_26.toInt ∧ nx2_26.toInt ≤ 400) ∧ (0 ≤ bg2_25.toInt ∧ bg2_25.toInt ≤ 400) ∧ (zKd kd2_24.toInt bg2_25.toInt nx2_26.toInt) ∧ (q_30 = 0 ∨ q_30 = 1) := hq31
        have hP : va_P g.1 vwCl (List.flatten [bLT g lt ta lo, bTape g ta ab sz ln kd2_24 bg2_25 nx2_26 ft2_27 fb, bLaw g lo lc lz2_28 ll lm lg ld fc2_29]) H := hP
        have hD : va_D A (List.flatten [bLT g lt ta lo, bTape g ta ab sz ln kd2_24 bg2_25 nx2_26 ft2_27 fb, bLaw g lo lc lz2_28 ll lm lg ld fc2_29]) := hD
        refine W.widen (k := 0) (n := 0) (Nat.le_of_ble_eq_true rfl) (Nat.le_of_ble_eq_true rfl) ?_
        refine W.eq (g2 := F0 m 20 ls [.int q_30]) rfl ?_
        obtain ⟨hq31_0, hq31_1, hq31_2, hq31_3, hq31_4, hq31_5⟩ := hq31
        rcases hq31_5 with rfl | rfl
        · skip
          refine lv_if_ne (tgt := 25) hx hb dX2_readCondition_20 (by decide) (fun c32 => absurd (by decide) c32) (fun _ => ?_)
          refine lv_iconst (v := 0) hx hb dX2_readCondition_23 (by decide) ?_
          have hP : va_P g.1 vwCl (List.flatten [bLT g lt ta lo, bTape g ta ab sz ln kd2_24 bg2_25 nx2_26 ft2_27 fb, bLaw g lo lc lz2_28 ll lm lg ld fc2_29]) H := hP
          have hD : va_D A (List.flatten [bLT g lt ta lo, bTape g ta ab sz ln kd2_24 bg2_25 nx2_26 ft2_27 fb, bLaw g lo lc lz2_28 ll lm lg ld fc2_29]) := hD
          exact mret_z hx hb hr hlocks hS (Nat.le_of_ble_eq_true rfl) (Nat.le_of_ble_eq_true rfl) dX2_readCondition_24 (kd2_24, bg2_25, nx2_26, ft2_27, lz2_28, fc2_29, (0 : Int32)) rfl (by decide) (show (0 ≤ lz2_28.toInt ∧ lz2_28.toInt ≤ 400) ∧ (-1 ≤ ft2_27.toInt) ∧ (0 ≤ nx2_26.toInt ∧ nx2_26.toInt ≤ 400) ∧ (0 ≤ bg2_25.toInt ∧ bg2_25.toInt ≤ 400) ∧ (zKd kd2_24.toInt bg2_25.toInt nx2_26.toInt) ∧ (0 = 0 ∨ 0 = 1) from ⟨hq31_0, hq31_1, hq31_2, hq31_3, hq31_4, (by decide)⟩) hP hD
        · skip
          refine lv_if_ne (tgt := 25) hx hb dX2_readCondition_20 (by decide) (fun _ => ?_) (fun c33 => absurd c33 (by decide))
          refine lv_aload_n hx hb dX2_readCondition_25 rfl (lv_at hl 0 rfl) ?_
          refine va_get (D := g.1) (ci := 2) (v := .ref lo) (C := RX2) (T := TX2) (N := 2) hx hb hts izRX2 hown hK hP 0 rfl rfl 1 (by decide) (hts _ k210) (fun _ h9 => h9) rfl dX2_readCondition_26 ?_
          refine lv_iload_n hx hb dX2_readCondition_29 rfl (lv_at hl 3 rfl) ?_
          refine mcallV' (g := g) (q0 := 0) (ci := 1) (As := [.int x_2]) (rest := []) St hK hT hA hP hD hS hl.1 [2] [0, 1] rfl rfl rfl (c_l_aim l g lo lc lz2_28 ll lm lg ld fc2_29 x_2 hq31_0) (cwV 1 hts (zgL (zl4 k320 k321 k322 k85) k203) rfl rfl rfl (by decide +kernel) ⟨Nat.le_of_ble_eq_true rfl, Nat.le_of_ble_eq_true rfl⟩) rfl rfl rfl rfl (Nat.le_of_ble_eq_true rfl) dX2_readCondition_30 ⟨(Nat.le_of_ble_eq_true rfl), (Nat.le_of_ble_eq_true rfl)⟩ (fun fc2_34 H locs hq35 hP hD hS => ?_)
          have hP : va_P g.1 vwCl (List.flatten [bLT g lt ta lo, bTape g ta ab sz ln kd2_24 bg2_25 nx2_26 ft2_27 fb, bLaw g lo lc lz2_28 ll lm lg ld fc2_34]) H := hP
          have hD : va_D A (List.flatten [bLT g lt ta lo, bTape g ta ab sz ln kd2_24 bg2_25 nx2_26 ft2_27 fb, bLaw g lo lc lz2_28 ll lm lg ld fc2_34]) := hD
          refine W.widen (k := 0) (n := 0) (Nat.le_of_ble_eq_true rfl) (Nat.le_of_ble_eq_true rfl) ?_
          refine W.eq (g2 := F0 m 33 ls []) rfl ?_
          refine lv_iconst (v := (-1)) hx hb dX2_readCondition_33 (by decide) ?_
          refine lv_istore_n (lv' := [(3, .int (-1)), (0, .ref lt), (1, .int 5), (2, .int x_1), (4, .int x_3)]) hx hb dX2_readCondition_34 rfl hl (by decide) rfl (fun ls hl => ?_)
          refine lv_aload_n hx hb dX2_readCondition_35 rfl (lv_at hl 1 rfl) ?_
          refine va_get (D := g.1) (ci := 2) (v := .ref ta) (C := RX2) (T := TX2) (N := 2) hx hb hts izRX2 hown hK hP 0 rfl rfl 0 (by decide) (hts _ k290) (fun x9 h9 => u_same (hts _ k291) x9 h9) rfl dX2_readCondition_36 ?_
          refine va_ldcS (q := g.2 16) hx hb hown (zra3 hT.2.1) dX2_readCondition_39 ?_
          refine mcallV' (g := g) (q0 := 0) (ci := 6) (As := [.ref (g.2 16)]) (rest := []) St hK hT hA hP hD hS hl.1 [1] [0, 2] rfl rfl rfl (c_t_takeWord l g ta ab sz ln kd2_24 bg2_25 nx2_26 ft2_27 fb (g.2 16) 3 zqa3 hln hq31_2 hq31_3 hq31_4 hq31_1 rfl zla3 zna3) (cwV 1 hts (zgL (zl4 k310 k311 k312 k277) k284) rfl rfl rfl (by decide +kernel) ⟨Nat.le_of_ble_eq_true rfl, Nat.le_of_ble_eq_true rfl⟩) rfl rfl rfl rfl (Nat.le_of_ble_eq_true rfl) dX2_readCondition_41 ⟨(Nat.le_of_ble_eq_true rfl), (Nat.le_of_ble_eq_true rfl)⟩ (fun u_ H locs hq40 hP hD hS => ?_)
          obtain ⟨kd2_36, bg2_37, nx2_38, r_39⟩ := u_
          replace hq40 : (0 ≤ nx2_38.toInt ∧ nx2_38.toInt ≤ 400) ∧ (0 ≤ bg2_37.toInt ∧ bg2_37.toInt ≤ 400) ∧ (zKd kd2_36.toInt bg2_37.toInt nx2_38.toInt) ∧ (r_39 = 0 ∨ r_39 = 1) := hq40
          have hP : va_P g.1 vwCl (List.flatten [bLT g lt ta lo, bLaw g lo lc lz2_28 ll lm lg ld fc2_34, bTape g ta ab sz ln kd2_36 bg2_37 nx2_38 ft2_27 fb]) H := hP
          have hD : va_D A (List.flatten [bLT g lt ta lo, bLaw g lo lc lz2_28 ll lm lg ld fc2_34, bTape g ta ab sz ln kd2_36 bg2_37 nx2_38 ft2_27 fb]) := hD
          refine W.widen (k := 0) (n := 0) (Nat.le_of_ble_eq_true rfl) (Nat.le_of_ble_eq_true rfl) ?_
          refine W.eq (g2 := F0 m 44 ls [.int r_39]) rfl ?_
          obtain ⟨hq40_0, hq40_1, hq40_2, hq40_3⟩ := hq40
          rcases hq40_3 with rfl | rfl
          · skip
            refine lv_if_eq (tgt := 61) hx hb dX2_readCondition_44 (by decide) (fun _ => ?_) (fun c41 => absurd (by decide) c41)
            refine lv_aload_n hx hb dX2_readCondition_61 rfl (lv_at hl 1 rfl) ?_
            refine va_get (D := g.1) (ci := 2) (v := .ref lo) (C := RX2) (T := TX2) (N := 2) hx hb hts izRX2 hown hK hP 0 rfl rfl 1 (by decide) (hts _ k210) (fun _ h9 => h9) rfl dX2_readCondition_62 ?_
            refine lv_iload_n hx hb dX2_readCondition_65 rfl (lv_at hl 3 rfl) ?_
            refine mcallV' (g := g) (q0 := 0) (ci := 1) (As := [.int x_1]) (rest := []) St hK hT hA hP hD hS hl.1 [1] [0, 2] rfl rfl rfl (c_l_aim l g lo lc lz2_28 ll lm lg ld fc2_34 x_1 hq31_0) (cwV 1 hts (zgL (zl4 k320 k321 k322 k85) k203) rfl rfl rfl (by decide +kernel) ⟨Nat.le_of_ble_eq_true rfl, Nat.le_of_ble_eq_true rfl⟩) rfl rfl rfl rfl (Nat.le_of_ble_eq_true rfl) dX2_readCondition_66 ⟨(Nat.le_of_ble_eq_true rfl), (Nat.le_of_ble_eq_true rfl)⟩ (fun fc2_42 H locs hq43 hP hD hS => ?_)
            have hP : va_P g.1 vwCl (List.flatten [bLT g lt ta lo, bTape g ta ab sz ln kd2_36 bg2_37 nx2_38 ft2_27 fb, bLaw g lo lc lz2_28 ll lm lg ld fc2_42]) H := hP
            have hD : va_D A (List.flatten [bLT g lt ta lo, bTape g ta ab sz ln kd2_36 bg2_37 nx2_38 ft2_27 fb, bLaw g lo lc lz2_28 ll lm lg ld fc2_42]) := hD
            refine W.widen (k := 0) (n := 0) (Nat.le_of_ble_eq_true rfl) (Nat.le_of_ble_eq_true rfl) ?_
            refine W.eq (g2 := F0 m 69 ls []) rfl ?_
            refine lv_aload_n hx hb dX2_readCondition_69 rfl (lv_at hl 1 rfl) ?_
            refine va_get (D := g.1) (ci := 2) (v := .ref ta) (C := RX2) (T := TX2) (N := 2) hx hb hts izRX2 hown hK hP 0 rfl rfl 0 (by decide) (hts _ k290) (fun x9 h9 => u_same (hts _ k291) x9 h9) rfl dX2_readCondition_70 ?_
            refine va_ldcS (q := g.2 18) hx hb hown (zra4 hT.2.1) dX2_readCondition_73 ?_
            refine mcallV' (g := g) (q0 := 0) (ci := 6) (As := [.ref (g.2 18)]) (rest := []) St hK hT hA hP hD hS hl.1 [1] [0, 2] rfl rfl rfl (c_t_takeWord l g ta ab sz ln kd2_36 bg2_37 nx2_38 ft2_27 fb (g.2 18) 4 zqa4 hln hq40_0 hq40_1 hq40_2 hq31_1 rfl zla4 zna4) (cwV 1 hts (zgL (zl4 k310 k311 k312 k277) k284) rfl rfl rfl (by decide +kernel) ⟨Nat.le_of_ble_eq_true rfl, Nat.le_of_ble_eq_true rfl⟩) rfl rfl rfl rfl (Nat.le_of_ble_eq_true rfl) dX2_readCondition_75 ⟨(Nat.le_of_ble_eq_true rfl), (Nat.le_of_ble_eq_true rfl)⟩ (fun u_ H locs hq48 hP hD hS => ?_)
            obtain ⟨kd2_44, bg2_45, nx2_46, r_47⟩ := u_
            replace hq48 : (0 ≤ nx2_46.toInt ∧ nx2_46.toInt ≤ 400) ∧ (0 ≤ bg2_45.toInt ∧ bg2_45.toInt ≤ 400) ∧ (zKd kd2_44.toInt bg2_45.toInt nx2_46.toInt) ∧ (r_47 = 0 ∨ r_47 = 1) := hq48
            have hP : va_P g.1 vwCl (List.flatten [bLT g lt ta lo, bLaw g lo lc lz2_28 ll lm lg ld fc2_42, bTape g ta ab sz ln kd2_44 bg2_45 nx2_46 ft2_27 fb]) H := hP
            have hD : va_D A (List.flatten [bLT g lt ta lo, bLaw g lo lc lz2_28 ll lm lg ld fc2_42, bTape g ta ab sz ln kd2_44 bg2_45 nx2_46 ft2_27 fb]) := hD
            refine W.widen (k := 0) (n := 0) (Nat.le_of_ble_eq_true rfl) (Nat.le_of_ble_eq_true rfl) ?_
            refine W.eq (g2 := F0 m 78 ls [.int r_47]) rfl ?_
            obtain ⟨hq48_0, hq48_1, hq48_2, hq48_3⟩ := hq48
            rcases hq48_3 with rfl | rfl
            · skip
              refine lv_if_ne (tgt := 83) hx hb dX2_readCondition_78 (by decide) (fun c49 => absurd (by decide) c49) (fun _ => ?_)
              refine lv_iconst (v := 1) hx hb dX2_readCondition_81 (by decide) ?_
              have hP : va_P g.1 vwCl (List.flatten [bLT g lt ta lo, bLaw g lo lc lz2_28 ll lm lg ld fc2_42, bTape g ta ab sz ln kd2_44 bg2_45 nx2_46 ft2_27 fb]) H := hP
              have hD : va_D A (List.flatten [bLT g lt ta lo, bLaw g lo lc lz2_28 ll lm lg ld fc2_42, bTape g ta ab sz ln kd2_44 bg2_45 nx2_46 ft2_27 fb]) := hD
              obtain ⟨hP, hD⟩ := zord (g := g) (Bs' := [bLT g lt ta lo, bTape g ta ab sz ln kd2_44 bg2_45 nx2_46 ft2_27 fb, bLaw g lo lc lz2_28 ll lm lg ld fc2_42]) [0, 2, 1] rfl rfl hP hD
              exact mret_z hx hb hr hlocks hS (Nat.le_of_ble_eq_true rfl) (Nat.le_of_ble_eq_true rfl) dX2_readCondition_82 (kd2_44, bg2_45, nx2_46, ft2_27, lz2_28, fc2_42, (1 : Int32)) rfl (by decide) (show (0 ≤ lz2_28.toInt ∧ lz2_28.toInt ≤ 400) ∧ (-1 ≤ ft2_27.toInt) ∧ (0 ≤ nx2_46.toInt ∧ nx2_46.toInt ≤ 400) ∧ (0 ≤ bg2_45.toInt ∧ bg2_45.toInt ≤ 400) ∧ (zKd kd2_44.toInt bg2_45.toInt nx2_46.toInt) ∧ (1 = 0 ∨ 1 = 1) from ⟨hq31_0, hq31_1, hq48_0, hq48_1, hq48_2, (by decide)⟩) hP hD
            · skip
              refine lv_if_ne (tgt := 83) hx hb dX2_readCondition_78 (by decide) (fun _ => ?_) (fun c50 => absurd c50 (by decide))
              refine lv_aload_n hx hb dX2_readCondition_83 rfl (lv_at hl 1 rfl) ?_
              refine va_get (D := g.1) (ci := 2) (v := .ref lo) (C := RX2) (T := TX2) (N := 2) hx hb hts izRX2 hown hK hP 0 rfl rfl 1 (by decide) (hts _ k210) (fun _ h9 => h9) rfl dX2_readCondition_84 ?_
              refine lv_bipush (v := 14) hx hb dX2_readCondition_87 (by decide) ?_
              refine lv_iconst (v := 0) hx hb dX2_readCondition_89 (by decide) ?_
              refine mcallV' (g := g) (q0 := 0) (ci := 1) (As := [.int 14, .int 0]) (rest := []) St hK hT hA hP hD hS hl.1 [1] [0, 2] rfl rfl rfl (c_l_put l g lo lc lz2_28 ll lm lg ld fc2_42 14 0 hq31_0) (cwV 2 hts (zgL (zl4 k297 k298 k299 k85) k202) rfl rfl rfl (by decide +kernel) ⟨Nat.le_of_ble_eq_true rfl, Nat.le_of_ble_eq_true rfl⟩) rfl rfl rfl rfl (Nat.le_of_ble_eq_true rfl) dX2_readCondition_90 ⟨(Nat.le_of_ble_eq_true rfl), (Nat.le_of_ble_eq_true rfl)⟩ (fun u_ H locs hq54 hP hD hS => ?_)
              obtain ⟨lz2_51, fc2_52, q_53⟩ := u_
              replace hq54 : (0 ≤ lz2_51.toInt ∧ lz2_51.toInt ≤ 400) := hq54
              have hP : va_P g.1 vwCl (List.flatten [bLT g lt ta lo, bTape g ta ab sz ln kd2_44 bg2_45 nx2_46 ft2_27 fb, bLaw g lo lc lz2_51 ll lm lg ld fc2_52]) H := hP
              have hD : va_D A (List.flatten [bLT g lt ta lo, bTape g ta ab sz ln kd2_44 bg2_45 nx2_46 ft2_27 fb, bLaw g lo lc lz2_51 ll lm lg ld fc2_52]) := hD
              refine W.widen (k := 0) (n := 0) (Nat.le_of_ble_eq_true rfl) (Nat.le_of_ble_eq_true rfl) ?_
              refine W.eq (g2 := F0 m 93 ls [.int q_53]) rfl ?_
              refine lv_istore_n (lv' := [(2, .int q_53), (3, .int (-1)), (0, .ref lt), (1, .int 5), (4, .int x_3)]) hx hb dX2_readCondition_93 rfl hl (by decide) rfl (fun ls hl => ?_)
              refine ziinc3 (n' := 1) (a' := 1) (b' := 400) (lv' := fun v9 => [(4, .int v9), (2, .int q_53), (3, .int (-1)), (0, .ref lt), (1, .int 5)]) hx hb dX2_readCondition_94 hl (k := 4) rfl (by decide) (fun _ => rfl) (zaddK (i := x_3.toInt) (j := 1) rfl (by decide) i10.1 n23 (Int.le_refl _) (Int.le_refl _) (by decide)) (fun x_55 ls hx_55 hl => ?_)
              refine lv_goto (tgt := 7) hx hb dX2_readCondition_97 (by decide) ?_
              have hl := lv_sub (l' := [(0, .ref lt), (1, .int 5), (2, .int q_53), (3, .int (-1)), (4, .int x_55)]) hl [3, 4, 1, 2, 0] rfl
              have hLn1 : ((-1) : Int32).toInt = (-1) := by decide
              have hP : va_P g.1 vwCl (List.flatten [bLT g lt ta lo, bTape g ta ab sz ln kd2_44 bg2_45 nx2_46 ft2_27 fb, bLaw g lo lc lz2_51 ll lm lg ld fc2_52]) H := hP
              have hD : va_D A (List.flatten [bLT g lt ta lo, bTape g ta ab sz ln kd2_44 bg2_45 nx2_46 ft2_27 fb, bLaw g lo lc lz2_51 ll lm lg ld fc2_52]) := hD
              exact ih7_17 q_53 (-1) x_55 kd2_44 bg2_45 nx2_46 ft2_27 lz2_51 fc2_52 ⟨(Int.le_trans (by decide) hx_55.2.1), hx_55.2.2⟩ ⟨hq48_1.1, hq48_1.2⟩ ⟨hq48_0.1, hq48_0.2⟩ (by first | omega | assumption | decide) ⟨hq54.1, hq54.2⟩ hq48_2 H _ ls (zmK hx_55.1 (by decide) n23 (by decide) hk7_17)  hP hD hS (lv_sub hl [0, 1, 2, 3, 4] rfl)
          · skip
            refine lv_if_eq (tgt := 61) hx hb dX2_readCondition_44 (by decide) (fun c56 => absurd c56 (by decide)) (fun _ => ?_)
            refine lv_aload_n hx hb dX2_readCondition_47 rfl (lv_at hl 1 rfl) ?_
            refine va_get (D := g.1) (ci := 2) (v := .ref lo) (C := RX2) (T := TX2) (N := 2) hx hb hts izRX2 hown hK hP 0 rfl rfl 1 (by decide) (hts _ k210) (fun _ h9 => h9) rfl dX2_readCondition_48 ?_
            refine lv_bipush (v := 13) hx hb dX2_readCondition_51 (by decide) ?_
            refine lv_iconst (v := 0) hx hb dX2_readCondition_53 (by decide) ?_
            refine mcallV' (g := g) (q0 := 0) (ci := 1) (As := [.int 13, .int 0]) (rest := []) St hK hT hA hP hD hS hl.1 [1] [0, 2] rfl rfl rfl (c_l_put l g lo lc lz2_28 ll lm lg ld fc2_34 13 0 hq31_0) (cwV 2 hts (zgL (zl4 k297 k298 k299 k85) k202) rfl rfl rfl (by decide +kernel) ⟨Nat.le_of_ble_eq_true rfl, Nat.le_of_ble_eq_true rfl⟩) rfl rfl rfl rfl (Nat.le_of_ble_eq_true rfl) dX2_readCondition_54 ⟨(Nat.le_of_ble_eq_true rfl), (Nat.le_of_ble_eq_true rfl)⟩ (fun u_ H locs hq60 hP hD hS => ?_)
            obtain ⟨lz2_57, fc2_58, q_59⟩ := u_
            replace hq60 : (0 ≤ lz2_57.toInt ∧ lz2_57.toInt ≤ 400) := hq60
            have hP : va_P g.1 vwCl (List.flatten [bLT g lt ta lo, bTape g ta ab sz ln kd2_36 bg2_37 nx2_38 ft2_27 fb, bLaw g lo lc lz2_57 ll lm lg ld fc2_58]) H := hP
            have hD : va_D A (List.flatten [bLT g lt ta lo, bTape g ta ab sz ln kd2_36 bg2_37 nx2_38 ft2_27 fb, bLaw g lo lc lz2_57 ll lm lg ld fc2_58]) := hD
            refine W.widen (k := 0) (n := 0) (Nat.le_of_ble_eq_true rfl) (Nat.le_of_ble_eq_true rfl) ?_
            refine W.eq (g2 := F0 m 57 ls [.int q_59]) rfl ?_
            refine lv_istore_n (lv' := [(3, .int q_59), (0, .ref lt), (1, .int 5), (2, .int x_1), (4, .int x_3)]) hx hb dX2_readCondition_57 rfl hl (by decide) rfl (fun ls hl => ?_)
            refine lv_goto (tgt := 94) hx hb dX2_readCondition_58 (by decide) ?_
            refine ziinc3 (n' := 1) (a' := 1) (b' := 400) (lv' := fun v9 => [(4, .int v9), (3, .int q_59), (0, .ref lt), (1, .int 5), (2, .int x_1)]) hx hb dX2_readCondition_94 hl (k := 4) rfl (by decide) (fun _ => rfl) (zaddK (i := x_3.toInt) (j := 1) rfl (by decide) i10.1 n23 (Int.le_refl _) (Int.le_refl _) (by decide)) (fun x_61 ls hx_61 hl => ?_)
            refine lv_goto (tgt := 7) hx hb dX2_readCondition_97 (by decide) ?_
            have hl := lv_sub (l' := [(0, .ref lt), (1, .int 5), (2, .int x_1), (3, .int q_59), (4, .int x_61)]) hl [2, 3, 4, 1, 0] rfl
            have hP : va_P g.1 vwCl (List.flatten [bLT g lt ta lo, bTape g ta ab sz ln kd2_36 bg2_37 nx2_38 ft2_27 fb, bLaw g lo lc lz2_57 ll lm lg ld fc2_58]) H := hP
            have hD : va_D A (List.flatten [bLT g lt ta lo, bTape g ta ab sz ln kd2_36 bg2_37 nx2_38 ft2_27 fb, bLaw g lo lc lz2_57 ll lm lg ld fc2_58]) := hD
            exact ih7_17 x_1 q_59 x_61 kd2_36 bg2_37 nx2_38 ft2_27 lz2_57 fc2_58 ⟨(Int.le_trans (by decide) hx_61.2.1), hx_61.2.2⟩ ⟨hq40_1.1, hq40_1.2⟩ ⟨hq40_0.1, hq40_0.2⟩ (by first | omega | assumption | decide) ⟨hq60.1, hq60.2⟩ hq40_2 H _ ls (zmK hx_61.1 (by decide) n23 (by decide) hk7_17)  hP hD hS (lv_sub hl [0, 1, 2, 3, 4] rfl)
  have hLn1 : ((-1) : Int32).toInt = (-1) := by decide
  have hL0 : (0 : Int32).toInt = 0 := by decide
  have hP : va_P g.1 vwCl (List.flatten [bLT g lt ta lo, bTape g ta ab sz ln kd bg nx ft fb, bLaw g lo lc lz ll lm lg ld fc]) s.heap := hP
  have hD : va_D A (List.flatten [bLT g lt ta lo, bTape g ta ab sz ln kd bg nx ft fb, bLaw g lo lc lz ll lm lg ld fc]) := hD
  exact LP7_16 _ (-1) (-1) 0 kd bg nx ft lz fc (by decide) ⟨hbg.1, hbg.2⟩ ⟨hnx.1, hnx.2⟩ (by first | omega | assumption | decide) ⟨b_lz.1, b_lz.2⟩ hkd s.heap _ ls (Nat.lt_succ_self _)  hP hD hS (lv_sub hl [0, 1, 2, 3, 4] rfl)
set_option maxRecDepth 100000 in
set_option maxHeartbeats 4000000 in
theorem c_lt_readDeeper5 (l : Launch) (g : zG) (lt : Nat) (ta : Nat) (lo : Nat) (ab : Nat) (sz : Int32) (ln : Int32) (kd : Int32) (bg : Int32) (nx : Int32) (ft : Int32) (fb : Nat → Int32) (lc : Nat) (lz : Int32) (ll : Int32) (lm : Int32) (lg : Int32) (ld : Int32) (fc : Nat → Int32) (b_lz : 0 ≤ lz.toInt ∧ lz.toInt ≤ 400) (hln : 0 ≤ ln.toInt ∧ ln.toInt ≤ 400) (hnx : 0 ≤ nx.toInt ∧ nx.toInt ≤ 400) (hbg : 0 ≤ bg.toInt ∧ bg.toInt ≤ 400) (hkd : zKd kd.toInt bg.toInt nx.toInt) (hft : -1 ≤ ft.toInt) : zM' g l yX2_readDeeper (Cond.code yX2_readDeeper cX2_readDeeper 2 (some .boolean) :: zB) ({ frames := 11, cells := 0, slots := 0, locals := 243 } : Room) [.ref lt, .int 5] [bLT g lt ta lo, bTape g ta ab sz ln kd bg nx ft fb, bLaw g lo lc lz ll lm lg ld fc] (fun u : Int32 × Int32 × Int32 × Int32 × Int32 × (Nat → Int32) × Int32 => (fun (kd2 : Int32) (bg2 : Int32) (nx2 : Int32) (ft2 : Int32) (lz2 : Int32) (fc2 : Nat → Int32) (q : Int32) => some (.int q)) (u.1) (u.2.1) (u.2.2.1) (u.2.2.2.1) (u.2.2.2.2.1) (u.2.2.2.2.2.1) (u.2.2.2.2.2.2)) (fun u : Int32 × Int32 × Int32 × Int32 × Int32 × (Nat → Int32) × Int32 => (fun (kd2 : Int32) (bg2 : Int32) (nx2 : Int32) (ft2 : Int32) (lz2 : Int32) (fc2 : Nat → Int32) (q : Int32) => (0 ≤ lz2.toInt ∧ lz2.toInt ≤ 400) ∧ (-1 ≤ ft2.toInt) ∧ (0 ≤ nx2.toInt ∧ nx2.toInt ≤ 400) ∧ (0 ≤ bg2.toInt ∧ bg2.toInt ≤ 400) ∧ (zKd kd2.toInt bg2.toInt nx2.toInt) ∧ (q = 0 ∨ q = 1)) (u.1) (u.2.1) (u.2.2.1) (u.2.2.2.1) (u.2.2.2.2.1) (u.2.2.2.2.2.1) (u.2.2.2.2.2.2)) (fun u : Int32 × Int32 × Int32 × Int32 × Int32 × (Nat → Int32) × Int32 => (fun (kd2 : Int32) (bg2 : Int32) (nx2 : Int32) (ft2 : Int32) (lz2 : Int32) (fc2 : Nat → Int32) (q : Int32) => [bLT g lt ta lo, bTape g ta ab sz ln kd2 bg2 nx2 ft2 fb, bLaw g lo lc lz2 ll lm lg ld fc2]) (u.1) (u.2.1) (u.2.2.1) (u.2.2.2.1) (u.2.2.2.2.1) (u.2.2.2.2.2.1) (u.2.2.2.2.2.2)) := by
  refine zM'.of (cc := cX2_readDeeper) (maxL := 2) (rt := (some .boolean)) (by decide) rfl (Nat.le_of_ble_eq_true rfl) ?_
  intro p e s m args below meth c A ls St hr hlocks hin hK hT hA hP hD hS hl
  obtain ⟨hx, hb, hml, hown, hts⟩ := id St
  have hl : lv_has ls 2 [(0, .ref lt), (1, .int 5)] := hl
  refine lv_aload_n hx hb dX2_readDeeper_0 rfl (lv_at hl 0 rfl) ?_
  refine va_get (D := g.1) (ci := 2) (v := .ref ta) (C := RX2) (T := TX2) (N := 2) hx hb hts izRX2 hown hK hP 0 rfl rfl 0 (by decide) (hts _ k290) (fun x9 h9 => u_same (hts _ k291) x9 h9) rfl dX2_readDeeper_1 ?_
  refine lv_bipush (v := 40) hx hb dX2_readDeeper_4 (by decide) ?_
  refine mcallV' (g := g) (q0 := 0) (ci := 6) (As := [.int 40]) (rest := []) St hK hT hA hP hD hS hl.1 [1] [0, 2] rfl rfl rfl (c_t_takeSign l g ta ab sz ln kd bg nx ft fb 40 hln hnx hbg hkd hft) (cwV 1 hts (zgL (zl4 k300 k301 k302 k277) k286) rfl rfl rfl (by decide +kernel) ⟨Nat.le_of_ble_eq_true rfl, Nat.le_of_ble_eq_true rfl⟩) rfl rfl rfl rfl (Nat.le_of_ble_eq_true rfl) dX2_readDeeper_6 ⟨(Nat.le_of_ble_eq_true rfl), (Nat.le_of_ble_eq_true rfl)⟩ (fun u_ H locs hq5 hP hD hS => ?_)
  obtain ⟨kd2_1, bg2_2, nx2_3, q_4⟩ := u_
  replace hq5 : (0 ≤ nx2_3.toInt ∧ nx2_3.toInt ≤ 400) ∧ (0 ≤ bg2_2.toInt ∧ bg2_2.toInt ≤ 400) ∧ (zKd kd2_1.toInt bg2_2.toInt nx2_3.toInt) ∧ (q_4 = 0 ∨ q_4 = 1) := hq5
  have hP : va_P g.1 vwCl (List.flatten [bLT g lt ta lo, bLaw g lo lc lz ll lm lg ld fc, bTape g ta ab sz ln kd2_1 bg2_2 nx2_3 ft fb]) H := hP
  have hD : va_D A (List.flatten [bLT g lt ta lo, bLaw g lo lc lz ll lm lg ld fc, bTape g ta ab sz ln kd2_1 bg2_2 nx2_3 ft fb]) := hD
  refine W.widen (k := 0) (n := 0) (Nat.le_of_ble_eq_true rfl) (Nat.le_of_ble_eq_true rfl) ?_
  refine W.eq (g2 := F0 m 9 ls [.int q_4]) rfl ?_
  obtain ⟨hq5_0, hq5_1, hq5_2, hq5_3⟩ := hq5
  rcases hq5_3 with rfl | rfl
  · skip
    refine lv_if_eq (tgt := 48) hx hb dX2_readDeeper_9 (by decide) (fun _ => ?_) (fun c6 => absurd (by decide) c6)
    refine lv_aload_n hx hb dX2_readDeeper_48 rfl (lv_at hl 0 rfl) ?_
    refine va_get (D := g.1) (ci := 2) (v := .ref ta) (C := RX2) (T := TX2) (N := 2) hx hb hts izRX2 hown hK hP 0 rfl rfl 0 (by decide) (hts _ k290) (fun x9 h9 => u_same (hts _ k291) x9 h9) rfl dX2_readDeeper_49 ?_
    refine mcallV' (g := g) (q0 := 0) (ci := 6) (As := []) (rest := []) St hK hT hA hP hD hS hl.1 [2] [0, 1] rfl rfl rfl (c_t_step l g ta ab sz ln kd2_1 bg2_2 nx2_3 ft fb hln hq5_0) (cwV 0 hts (zgL (zl4 k296 k275 k276 k277) k271) rfl rfl rfl (by decide +kernel) ⟨Nat.le_of_ble_eq_true rfl, Nat.le_of_ble_eq_true rfl⟩) rfl rfl rfl rfl (Nat.le_of_ble_eq_true rfl) dX2_readDeeper_52 ⟨(Nat.le_of_ble_eq_true rfl), (Nat.le_of_ble_eq_true rfl)⟩ (fun u_ H locs hq10 hP hD hS => ?_)
    obtain ⟨kd2_7, bg2_8, nx2_9⟩ := u_
    replace hq10 : (0 ≤ nx2_9.toInt ∧ nx2_9.toInt ≤ 400) ∧ (0 ≤ bg2_8.toInt ∧ bg2_8.toInt ≤ 400) ∧ (zKd kd2_7.toInt bg2_8.toInt nx2_9.toInt) := hq10
    have hP : va_P g.1 vwCl (List.flatten [bLT g lt ta lo, bLaw g lo lc lz ll lm lg ld fc, bTape g ta ab sz ln kd2_7 bg2_8 nx2_9 ft fb]) H := hP
    have hD : va_D A (List.flatten [bLT g lt ta lo, bLaw g lo lc lz ll lm lg ld fc, bTape g ta ab sz ln kd2_7 bg2_8 nx2_9 ft fb]) := hD
    refine W.widen (k := 0) (n := 0) (Nat.le_of_ble_eq_true rfl) (Nat.le_of_ble_eq_true rfl) ?_
    refine W.eq (g2 := F0 m 55 ls []) rfl ?_
    obtain ⟨hq10_0, hq10_1, hq10_2⟩ := hq10
    refine lv_aload_n hx hb dX2_readDeeper_55 rfl (lv_at hl 0 rfl) ?_
    refine lv_iload_n hx hb dX2_readDeeper_56 rfl (lv_at hl 1 rfl) ?_
    refine mcallV' (g := g) (q0 := 0) (ci := 2) (As := [.int 5]) (rest := []) St hK hT hA hP hD hS hl.1 [0, 2, 1] [] rfl rfl rfl (c_lt_readAtom5 l g lt ta lo ab sz ln kd2_7 bg2_8 nx2_9 ft fb lc lz ll lm lg ld fc b_lz hln hq10_0 hq10_1 hq10_2 hft) (cwV 1 hts (zgL (zl4 k317 k318 k319 k309) k327) rfl rfl rfl (by decide +kernel) ⟨Nat.le_of_ble_eq_true rfl, Nat.le_of_ble_eq_true rfl⟩) rfl rfl rfl rfl (Nat.le_of_ble_eq_true rfl) dX2_readDeeper_57 ⟨(Nat.le_of_ble_eq_true rfl), (Nat.le_of_ble_eq_true rfl)⟩ (fun u_ H locs hq18 hP hD hS => ?_)
    obtain ⟨kd2_11, bg2_12, nx2_13, ft2_14, lz2_15, fc2_16, q_17⟩ := u_
    replace hq18 : (0 ≤ lz2_15.toInt ∧ lz2_15.toInt ≤ 400) ∧ (-1 ≤ ft2_14.toInt) ∧ (0 ≤ nx2_13.toInt ∧ nx2_13.toInt ≤ 400) ∧ (0 ≤ bg2_12.toInt ∧ bg2_12.toInt ≤ 400) ∧ (zKd kd2_11.toInt bg2_12.toInt nx2_13.toInt) ∧ (q_17 = 0 ∨ q_17 = 1) := hq18
    have hP : va_P g.1 vwCl (List.flatten [bLT g lt ta lo, bTape g ta ab sz ln kd2_11 bg2_12 nx2_13 ft2_14 fb, bLaw g lo lc lz2_15 ll lm lg ld fc2_16]) H := hP
    have hD : va_D A (List.flatten [bLT g lt ta lo, bTape g ta ab sz ln kd2_11 bg2_12 nx2_13 ft2_14 fb, bLaw g lo lc lz2_15 ll lm lg ld fc2_16]) := hD
    refine W.widen (k := 0) (n := 0) (Nat.le_of_ble_eq_true rfl) (Nat.le_of_ble_eq_true rfl) ?_
    refine W.eq (g2 := F0 m 60 ls [.int q_17]) rfl ?_
    obtain ⟨hq18_0, hq18_1, hq18_2, hq18_3, hq18_4, hq18_5⟩ := hq18
    rcases hq18_5 with rfl | rfl
    · skip
      refine lv_if_ne (tgt := 65) hx hb dX2_readDeeper_60 (by decide) (fun c19 => absurd (by decide) c19) (fun _ => ?_)
      refine lv_iconst (v := 0) hx hb dX2_readDeeper_63 (by decide) ?_
      have hP : va_P g.1 vwCl (List.flatten [bLT g lt ta lo, bTape g ta ab sz ln kd2_11 bg2_12 nx2_13 ft2_14 fb, bLaw g lo lc lz2_15 ll lm lg ld fc2_16]) H := hP
      have hD : va_D A (List.flatten [bLT g lt ta lo, bTape g ta ab sz ln kd2_11 bg2_12 nx2_13 ft2_14 fb, bLaw g lo lc lz2_15 ll lm lg ld fc2_16]) := hD
      exact mret_z hx hb hr hlocks hS (Nat.le_of_ble_eq_true rfl) (Nat.le_of_ble_eq_true rfl) dX2_readDeeper_64 (kd2_11, bg2_12, nx2_13, ft2_14, lz2_15, fc2_16, (0 : Int32)) rfl (by decide) (show (0 ≤ lz2_15.toInt ∧ lz2_15.toInt ≤ 400) ∧ (-1 ≤ ft2_14.toInt) ∧ (0 ≤ nx2_13.toInt ∧ nx2_13.toInt ≤ 400) ∧ (0 ≤ bg2_12.toInt ∧ bg2_12.toInt ≤ 400) ∧ (zKd kd2_11.toInt bg2_12.toInt nx2_13.toInt) ∧ (0 = 0 ∨ 0 = 1) from ⟨hq18_0, hq18_1, hq18_2, hq18_3, hq18_4, (by decide)⟩) hP hD
    · skip
      refine lv_if_ne (tgt := 65) hx hb dX2_readDeeper_60 (by decide) (fun _ => ?_) (fun c20 => absurd c20 (by decide))
      refine lv_aload_n hx hb dX2_readDeeper_65 rfl (lv_at hl 0 rfl) ?_
      refine va_get (D := g.1) (ci := 2) (v := .ref lo) (C := RX2) (T := TX2) (N := 2) hx hb hts izRX2 hown hK hP 0 rfl rfl 1 (by decide) (hts _ k210) (fun _ h9 => h9) rfl dX2_readDeeper_66 ?_
      refine lv_bipush (v := 12) hx hb dX2_readDeeper_69 (by decide) ?_
      refine lv_iconst (v := 0) hx hb dX2_readDeeper_71 (by decide) ?_
      refine mcallV' (g := g) (q0 := 0) (ci := 1) (As := [.int 12, .int 0]) (rest := []) St hK hT hA hP hD hS hl.1 [2] [0, 1] rfl rfl rfl (c_l_put l g lo lc lz2_15 ll lm lg ld fc2_16 12 0 hq18_0) (cwV 2 hts (zgL (zl4 k297 k298 k299 k85) k202) rfl rfl rfl (by decide +kernel) ⟨Nat.le_of_ble_eq_true rfl, Nat.le_of_ble_eq_true rfl⟩) rfl rfl rfl rfl (Nat.le_of_ble_eq_true rfl) dX2_readDeeper_72 ⟨(Nat.le_of_ble_eq_true rfl), (Nat.le_of_ble_eq_true rfl)⟩ (fun u_ H locs hq24 hP hD hS => ?_)
      obtain ⟨lz2_21, fc2_22, q_23⟩ := u_
      replace hq24 : (0 ≤ lz2_21.toInt ∧ lz2_21.toInt ≤ 400) := hq24
      have hP : va_P g.1 vwCl (List.flatten [bLT g lt ta lo, bTape g ta ab sz ln kd2_11 bg2_12 nx2_13 ft2_14 fb, bLaw g lo lc lz2_21 ll lm lg ld fc2_22]) H := hP
      have hD : va_D A (List.flatten [bLT g lt ta lo, bTape g ta ab sz ln kd2_11 bg2_12 nx2_13 ft2_14 fb, bLaw g lo lc lz2_21 ll lm lg ld fc2_22]) := hD
      refine W.widen (k := 0) (n := 0) (Nat.le_of_ble_eq_true rfl) (Nat.le_of_ble_eq_true rfl) ?_
      refine W.eq (g2 := F0 m 75 ls [.int q_23]) rfl ?_
      refine lv_pop hx hb dX2_readDeeper_75 rfl ?_
      refine lv_iconst (v := 1) hx hb dX2_readDeeper_76 (by decide) ?_
      have hP : va_P g.1 vwCl (List.flatten [bLT g lt ta lo, bTape g ta ab sz ln kd2_11 bg2_12 nx2_13 ft2_14 fb, bLaw g lo lc lz2_21 ll lm lg ld fc2_22]) H := hP
      have hD : va_D A (List.flatten [bLT g lt ta lo, bTape g ta ab sz ln kd2_11 bg2_12 nx2_13 ft2_14 fb, bLaw g lo lc lz2_21 ll lm lg ld fc2_22]) := hD
      exact mret_z hx hb hr hlocks hS (Nat.le_of_ble_eq_true rfl) (Nat.le_of_ble_eq_true rfl) dX2_readDeeper_77 (kd2_11, bg2_12, nx2_13, ft2_14, lz2_21, fc2_22, (1 : Int32)) rfl (by decide) (show (0 ≤ lz2_21.toInt ∧ lz2_21.toInt ≤ 400) ∧ (-1 ≤ ft2_14.toInt) ∧ (0 ≤ nx2_13.toInt ∧ nx2_13.toInt ≤ 400) ∧ (0 ≤ bg2_12.toInt ∧ bg2_12.toInt ≤ 400) ∧ (zKd kd2_11.toInt bg2_12.toInt nx2_13.toInt) ∧ (1 = 0 ∨ 1 = 1) from ⟨hq24, hq18_1, hq18_2, hq18_3, hq18_4, (by decide)⟩) hP hD
  · skip
    refine lv_if_eq (tgt := 48) hx hb dX2_readDeeper_9 (by decide) (fun c25 => absurd c25 (by decide)) (fun _ => ?_)
    refine lv_aload_n hx hb dX2_readDeeper_12 rfl (lv_at hl 0 rfl) ?_
    refine lv_iload_n hx hb dX2_readDeeper_13 rfl (lv_at hl 1 rfl) ?_
    refine mcallV' (g := g) (q0 := 0) (ci := 2) (As := [.int 5]) (rest := []) St hK hT hA hP hD hS hl.1 [0, 2, 1] [] rfl rfl rfl (c_lt_readCondition5 l g lt ta lo ab sz ln kd2_1 bg2_2 nx2_3 ft fb lc lz ll lm lg ld fc b_lz hln hq5_0 hq5_1 hq5_2 hft) (cwV 1 hts (zgL (zl4 k324 k325 k326 k309) k316) rfl rfl rfl (by decide +kernel) ⟨Nat.le_of_ble_eq_true rfl, Nat.le_of_ble_eq_true rfl⟩) rfl rfl rfl rfl (Nat.le_of_ble_eq_true rfl) dX2_readDeeper_14 ⟨(Nat.le_of_ble_eq_true rfl), (Nat.le_of_ble_eq_true rfl)⟩ (fun u_ H locs hq33 hP hD hS => ?_)
    obtain ⟨kd2_26, bg2_27, nx2_28, ft2_29, lz2_30, fc2_31, q_32⟩ := u_
    replace hq33 : (0 ≤ lz2_30.toInt ∧ lz2_30.toInt ≤ 400) ∧ (-1 ≤ ft2_29.toInt) ∧ (0 ≤ nx2_28.toInt ∧ nx2_28.toInt ≤ 400) ∧ (0 ≤ bg2_27.toInt ∧ bg2_27.toInt ≤ 400) ∧ (zKd kd2_26.toInt bg2_27.toInt nx2_28.toInt) ∧ (q_32 = 0 ∨ q_32 = 1) := hq33
    have hP : va_P g.1 vwCl (List.flatten [bLT g lt ta lo, bTape g ta ab sz ln kd2_26 bg2_27 nx2_28 ft2_29 fb, bLaw g lo lc lz2_30 ll lm lg ld fc2_31]) H := hP
    have hD : va_D A (List.flatten [bLT g lt ta lo, bTape g ta ab sz ln kd2_26 bg2_27 nx2_28 ft2_29 fb, bLaw g lo lc lz2_30 ll lm lg ld fc2_31]) := hD
    refine W.widen (k := 0) (n := 0) (Nat.le_of_ble_eq_true rfl) (Nat.le_of_ble_eq_true rfl) ?_
    refine W.eq (g2 := F0 m 17 ls [.int q_32]) rfl ?_
    obtain ⟨hq33_0, hq33_1, hq33_2, hq33_3, hq33_4, hq33_5⟩ := hq33
    rcases hq33_5 with rfl | rfl
    · skip
      refine lv_if_eq (tgt := 46) hx hb dX2_readDeeper_17 (by decide) (fun _ => ?_) (fun c34 => absurd (by decide) c34)
      refine lv_iconst (v := 0) hx hb dX2_readDeeper_46 (by decide) ?_
      have hP : va_P g.1 vwCl (List.flatten [bLT g lt ta lo, bTape g ta ab sz ln kd2_26 bg2_27 nx2_28 ft2_29 fb, bLaw g lo lc lz2_30 ll lm lg ld fc2_31]) H := hP
      have hD : va_D A (List.flatten [bLT g lt ta lo, bTape g ta ab sz ln kd2_26 bg2_27 nx2_28 ft2_29 fb, bLaw g lo lc lz2_30 ll lm lg ld fc2_31]) := hD
      exact mret_z hx hb hr hlocks hS (Nat.le_of_ble_eq_true rfl) (Nat.le_of_ble_eq_true rfl) dX2_readDeeper_47 (kd2_26, bg2_27, nx2_28, ft2_29, lz2_30, fc2_31, (0 : Int32)) rfl (by decide) (show (0 ≤ lz2_30.toInt ∧ lz2_30.toInt ≤ 400) ∧ (-1 ≤ ft2_29.toInt) ∧ (0 ≤ nx2_28.toInt ∧ nx2_28.toInt ≤ 400) ∧ (0 ≤ bg2_27.toInt ∧ bg2_27.toInt ≤ 400) ∧ (zKd kd2_26.toInt bg2_27.toInt nx2_28.toInt) ∧ (0 = 0 ∨ 0 = 1) from ⟨hq33_0, hq33_1, hq33_2, hq33_3, hq33_4, (by decide)⟩) hP hD
    · skip
      refine lv_if_eq (tgt := 46) hx hb dX2_readDeeper_17 (by decide) (fun c35 => absurd c35 (by decide)) (fun _ => ?_)
      refine lv_aload_n hx hb dX2_readDeeper_20 rfl (lv_at hl 0 rfl) ?_
      refine va_get (D := g.1) (ci := 2) (v := .ref ta) (C := RX2) (T := TX2) (N := 2) hx hb hts izRX2 hown hK hP 0 rfl rfl 0 (by decide) (hts _ k290) (fun x9 h9 => u_same (hts _ k291) x9 h9) rfl dX2_readDeeper_21 ?_
      refine lv_bipush (v := 41) hx hb dX2_readDeeper_24 (by decide) ?_
      refine mcallV' (g := g) (q0 := 0) (ci := 6) (As := [.int 41]) (rest := []) St hK hT hA hP hD hS hl.1 [1] [0, 2] rfl rfl rfl (c_t_takeSign l g ta ab sz ln kd2_26 bg2_27 nx2_28 ft2_29 fb 41 hln hq33_2 hq33_3 hq33_4 hq33_1) (cwV 1 hts (zgL (zl4 k300 k301 k302 k277) k286) rfl rfl rfl (by decide +kernel) ⟨Nat.le_of_ble_eq_true rfl, Nat.le_of_ble_eq_true rfl⟩) rfl rfl rfl rfl (Nat.le_of_ble_eq_true rfl) dX2_readDeeper_26 ⟨(Nat.le_of_ble_eq_true rfl), (Nat.le_of_ble_eq_true rfl)⟩ (fun u_ H locs hq40 hP hD hS => ?_)
      obtain ⟨kd2_36, bg2_37, nx2_38, q_39⟩ := u_
      replace hq40 : (0 ≤ nx2_38.toInt ∧ nx2_38.toInt ≤ 400) ∧ (0 ≤ bg2_37.toInt ∧ bg2_37.toInt ≤ 400) ∧ (zKd kd2_36.toInt bg2_37.toInt nx2_38.toInt) ∧ (q_39 = 0 ∨ q_39 = 1) := hq40
      have hP : va_P g.1 vwCl (List.flatten [bLT g lt ta lo, bLaw g lo lc lz2_30 ll lm lg ld fc2_31, bTape g ta ab sz ln kd2_36 bg2_37 nx2_38 ft2_29 fb]) H := hP
      have hD : va_D A (List.flatten [bLT g lt ta lo, bLaw g lo lc lz2_30 ll lm lg ld fc2_31, bTape g ta ab sz ln kd2_36 bg2_37 nx2_38 ft2_29 fb]) := hD
      refine W.widen (k := 0) (n := 0) (Nat.le_of_ble_eq_true rfl) (Nat.le_of_ble_eq_true rfl) ?_
      refine W.eq (g2 := F0 m 29 ls [.int q_39]) rfl ?_
      obtain ⟨hq40_0, hq40_1, hq40_2, hq40_3⟩ := hq40
      rcases hq40_3 with rfl | rfl
      · skip
        refine lv_if_ne (tgt := 42) hx hb dX2_readDeeper_29 (by decide) (fun c41 => absurd (by decide) c41) (fun _ => ?_)
        refine lv_aload_n hx hb dX2_readDeeper_32 rfl (lv_at hl 0 rfl) ?_
        refine va_get (D := g.1) (ci := 2) (v := .ref ta) (C := RX2) (T := TX2) (N := 2) hx hb hts izRX2 hown hK hP 0 rfl rfl 0 (by decide) (hts _ k290) (fun x9 h9 => u_same (hts _ k291) x9 h9) rfl dX2_readDeeper_33 ?_
        refine mcallV' (g := g) (q0 := 0) (ci := 6) (As := []) (rest := []) St hK hT hA hP hD hS hl.1 [2] [0, 1] rfl rfl rfl (c_t_refuse l g ta ab sz ln kd2_36 bg2_37 nx2_38 ft2_29 fb hln hq40_0 hq40_1 hq40_2 hq33_1) (cwV 0 hts (zgL (zl4 k303 k279 k280 k277) k269) rfl rfl rfl (by decide +kernel) ⟨Nat.le_of_ble_eq_true rfl, Nat.le_of_ble_eq_true rfl⟩) rfl rfl rfl rfl (Nat.le_of_ble_eq_true rfl) dX2_readDeeper_36 ⟨(Nat.le_of_ble_eq_true rfl), (Nat.le_of_ble_eq_true rfl)⟩ (fun ft2_42 H locs hq43 hP hD hS => ?_)
        replace hq43 : (-1 ≤ ft2_42.toInt) := hq43
        have hP : va_P g.1 vwCl (List.flatten [bLT g lt ta lo, bLaw g lo lc lz2_30 ll lm lg ld fc2_31, bTape g ta ab sz ln kd2_36 bg2_37 nx2_38 ft2_42 fb]) H := hP
        have hD : va_D A (List.flatten [bLT g lt ta lo, bLaw g lo lc lz2_30 ll lm lg ld fc2_31, bTape g ta ab sz ln kd2_36 bg2_37 nx2_38 ft2_42 fb]) := hD
        refine W.widen (k := 0) (n := 0) (Nat.le_of_ble_eq_true rfl) (Nat.le_of_ble_eq_true rfl) ?_
        refine W.eq (g2 := F0 m 39 ls [.int 0]) rfl ?_
        refine lv_if_eq (tgt := 46) hx hb dX2_readDeeper_39 (by decide) (fun _ => ?_) (fun c44 => absurd (by decide) c44)
        refine lv_iconst (v := 0) hx hb dX2_readDeeper_46 (by decide) ?_
        have hP : va_P g.1 vwCl (List.flatten [bLT g lt ta lo, bLaw g lo lc lz2_30 ll lm lg ld fc2_31, bTape g ta ab sz ln kd2_36 bg2_37 nx2_38 ft2_42 fb]) H := hP
        have hD : va_D A (List.flatten [bLT g lt ta lo, bLaw g lo lc lz2_30 ll lm lg ld fc2_31, bTape g ta ab sz ln kd2_36 bg2_37 nx2_38 ft2_42 fb]) := hD
        obtain ⟨hP, hD⟩ := zord (g := g) (Bs' := [bLT g lt ta lo, bTape g ta ab sz ln kd2_36 bg2_37 nx2_38 ft2_42 fb, bLaw g lo lc lz2_30 ll lm lg ld fc2_31]) [0, 2, 1] rfl rfl hP hD
        exact mret_z hx hb hr hlocks hS (Nat.le_of_ble_eq_true rfl) (Nat.le_of_ble_eq_true rfl) dX2_readDeeper_47 (kd2_36, bg2_37, nx2_38, ft2_42, lz2_30, fc2_31, (0 : Int32)) rfl (by decide) (show (0 ≤ lz2_30.toInt ∧ lz2_30.toInt ≤ 400) ∧ (-1 ≤ ft2_42.toInt) ∧ (0 ≤ nx2_38.toInt ∧ nx2_38.toInt ≤ 400) ∧ (0 ≤ bg2_37.toInt ∧ bg2_37.toInt ≤ 400) ∧ (zKd kd2_36.toInt bg2_37.toInt nx2_38.toInt) ∧ (0 = 0 ∨ 0 = 1) from ⟨hq33_0, hq43, hq40_0, hq40_1, hq40_2, (by decide)⟩) hP hD
      · skip
        refine lv_if_ne (tgt := 42) hx hb dX2_readDeeper_29 (by decide) (fun _ => ?_) (fun c45 => absurd c45 (by decide))
        refine lv_iconst (v := 1) hx hb dX2_readDeeper_42 (by decide) ?_
        refine lv_goto (tgt := 47) hx hb dX2_readDeeper_43 (by decide) ?_
        have hP : va_P g.1 vwCl (List.flatten [bLT g lt ta lo, bLaw g lo lc lz2_30 ll lm lg ld fc2_31, bTape g ta ab sz ln kd2_36 bg2_37 nx2_38 ft2_29 fb]) H := hP
        have hD : va_D A (List.flatten [bLT g lt ta lo, bLaw g lo lc lz2_30 ll lm lg ld fc2_31, bTape g ta ab sz ln kd2_36 bg2_37 nx2_38 ft2_29 fb]) := hD
        obtain ⟨hP, hD⟩ := zord (g := g) (Bs' := [bLT g lt ta lo, bTape g ta ab sz ln kd2_36 bg2_37 nx2_38 ft2_29 fb, bLaw g lo lc lz2_30 ll lm lg ld fc2_31]) [0, 2, 1] rfl rfl hP hD
        exact mret_z hx hb hr hlocks hS (Nat.le_of_ble_eq_true rfl) (Nat.le_of_ble_eq_true rfl) dX2_readDeeper_47 (kd2_36, bg2_37, nx2_38, ft2_29, lz2_30, fc2_31, (1 : Int32)) rfl (by decide) (show (0 ≤ lz2_30.toInt ∧ lz2_30.toInt ≤ 400) ∧ (-1 ≤ ft2_29.toInt) ∧ (0 ≤ nx2_38.toInt ∧ nx2_38.toInt ≤ 400) ∧ (0 ≤ bg2_37.toInt ∧ bg2_37.toInt ≤ 400) ∧ (zKd kd2_36.toInt bg2_37.toInt nx2_38.toInt) ∧ (1 = 0 ∨ 1 = 1) from ⟨hq33_0, hq33_1, hq40_0, hq40_1, hq40_2, (by decide)⟩) hP hD
set_option maxRecDepth 100000 in
set_option maxHeartbeats 4000000 in
theorem c_lt_readAtom4 (l : Launch) (g : zG) (lt : Nat) (ta : Nat) (lo : Nat) (ab : Nat) (sz : Int32) (ln : Int32) (kd : Int32) (bg : Int32) (nx : Int32) (ft : Int32) (fb : Nat → Int32) (lc : Nat) (lz : Int32) (ll : Int32) (lm : Int32) (lg : Int32) (ld : Int32) (fc : Nat → Int32) (b_lz : 0 ≤ lz.toInt ∧ lz.toInt ≤ 400) (hln : 0 ≤ ln.toInt ∧ ln.toInt ≤ 400) (hnx : 0 ≤ nx.toInt ∧ nx.toInt ≤ 400) (hbg : 0 ≤ bg.toInt ∧ bg.toInt ≤ 400) (hkd : zKd kd.toInt bg.toInt nx.toInt) (hft : -1 ≤ ft.toInt) : zM' g l yX2_readAtom (Cond.code yX2_readAtom cX2_readAtom 3 (some .boolean) :: zB) ({ frames := 12, cells := 0, slots := 0, locals := 264 } : Room) [.ref lt, .int 4] [bLT g lt ta lo, bTape g ta ab sz ln kd bg nx ft fb, bLaw g lo lc lz ll lm lg ld fc] (fun u : Int32 × Int32 × Int32 × Int32 × Int32 × (Nat → Int32) × Int32 => (fun (kd2 : Int32) (bg2 : Int32) (nx2 : Int32) (ft2 : Int32) (lz2 : Int32) (fc2 : Nat → Int32) (q : Int32) => some (.int q)) (u.1) (u.2.1) (u.2.2.1) (u.2.2.2.1) (u.2.2.2.2.1) (u.2.2.2.2.2.1) (u.2.2.2.2.2.2)) (fun u : Int32 × Int32 × Int32 × Int32 × Int32 × (Nat → Int32) × Int32 => (fun (kd2 : Int32) (bg2 : Int32) (nx2 : Int32) (ft2 : Int32) (lz2 : Int32) (fc2 : Nat → Int32) (q : Int32) => (0 ≤ lz2.toInt ∧ lz2.toInt ≤ 400) ∧ (-1 ≤ ft2.toInt) ∧ (0 ≤ nx2.toInt ∧ nx2.toInt ≤ 400) ∧ (0 ≤ bg2.toInt ∧ bg2.toInt ≤ 400) ∧ (zKd kd2.toInt bg2.toInt nx2.toInt) ∧ (q = 0 ∨ q = 1)) (u.1) (u.2.1) (u.2.2.1) (u.2.2.2.1) (u.2.2.2.2.1) (u.2.2.2.2.2.1) (u.2.2.2.2.2.2)) (fun u : Int32 × Int32 × Int32 × Int32 × Int32 × (Nat → Int32) × Int32 => (fun (kd2 : Int32) (bg2 : Int32) (nx2 : Int32) (ft2 : Int32) (lz2 : Int32) (fc2 : Nat → Int32) (q : Int32) => [bLT g lt ta lo, bTape g ta ab sz ln kd2 bg2 nx2 ft2 fb, bLaw g lo lc lz2 ll lm lg ld fc2]) (u.1) (u.2.1) (u.2.2.1) (u.2.2.2.1) (u.2.2.2.2.1) (u.2.2.2.2.2.1) (u.2.2.2.2.2.2)) := by
  refine zM'.of (cc := cX2_readAtom) (maxL := 3) (rt := (some .boolean)) (by decide) rfl (Nat.le_of_ble_eq_true rfl) ?_
  intro p e s m args below meth c A ls St hr hlocks hin hK hT hA hP hD hS hl
  obtain ⟨hx, hb, hml, hown, hts⟩ := id St
  have hl : lv_has ls 3 [(0, .ref lt), (1, .int 4)] := hl
  refine lv_aload_n hx hb dX2_readAtom_0 rfl (lv_at hl 0 rfl) ?_
  refine va_get (D := g.1) (ci := 2) (v := .ref ta) (C := RX2) (T := TX2) (N := 2) hx hb hts izRX2 hown hK hP 0 rfl rfl 0 (by decide) (hts _ k290) (fun x9 h9 => u_same (hts _ k291) x9 h9) rfl dX2_readAtom_1 ?_
  refine va_ldcS (q := g.2 20) hx hb hown (zra5 hT.2.1) dX2_readAtom_4 ?_
  refine mcallV' (g := g) (q0 := 0) (ci := 6) (As := [.ref (g.2 20)]) (rest := []) St hK hT hA hP hD hS hl.1 [1] [0, 2] rfl rfl rfl (c_t_isWord l g ta ab sz ln kd bg nx ft fb (g.2 20) 5 zqa5 hln hnx hbg hkd hft rfl zla5 zna5) (cwV 1 hts (zgL (zl4 k292 k282 k283 k277) k268) rfl rfl rfl (by decide +kernel) ⟨Nat.le_of_ble_eq_true rfl, Nat.le_of_ble_eq_true rfl⟩) rfl rfl rfl rfl (Nat.le_of_ble_eq_true rfl) dX2_readAtom_6 ⟨(Nat.le_of_ble_eq_true rfl), (Nat.le_of_ble_eq_true rfl)⟩ (fun r_1 H locs hq2 hP hD hS => ?_)
  replace hq2 : (r_1 = 0 ∨ r_1 = 1) := hq2
  have hP : va_P g.1 vwCl (List.flatten [bLT g lt ta lo, bLaw g lo lc lz ll lm lg ld fc, bTape g ta ab sz ln kd bg nx ft fb]) H := hP
  have hD : va_D A (List.flatten [bLT g lt ta lo, bLaw g lo lc lz ll lm lg ld fc, bTape g ta ab sz ln kd bg nx ft fb]) := hD
  refine W.widen (k := 0) (n := 0) (Nat.le_of_ble_eq_true rfl) (Nat.le_of_ble_eq_true rfl) ?_
  refine W.eq (g2 := F0 m 9 ls [.int r_1]) rfl ?_
  rcases hq2 with rfl | rfl
  · skip
    refine lv_if_ne (tgt := 24) hx hb dX2_readAtom_9 (by decide) (fun c3 => absurd (by decide) c3) (fun _ => ?_)
    refine lv_aload_n hx hb dX2_readAtom_12 rfl (lv_at hl 0 rfl) ?_
    refine va_get (D := g.1) (ci := 2) (v := .ref ta) (C := RX2) (T := TX2) (N := 2) hx hb hts izRX2 hown hK hP 0 rfl rfl 0 (by decide) (hts _ k290) (fun x9 h9 => u_same (hts _ k291) x9 h9) rfl dX2_readAtom_13 ?_
    refine lv_bipush (v := 40) hx hb dX2_readAtom_16 (by decide) ?_
    refine mcallV' (g := g) (q0 := 0) (ci := 6) (As := [.int 40]) (rest := []) St hK hT hA hP hD hS hl.1 [2] [0, 1] rfl rfl rfl (c_t_isSign l g ta ab sz ln kd bg nx ft fb 40 hln hnx hbg hkd hft) (cwV 1 hts (zgL (zl4 k305 k288 k289 k277) k285) rfl rfl rfl (by decide +kernel) ⟨Nat.le_of_ble_eq_true rfl, Nat.le_of_ble_eq_true rfl⟩) rfl rfl rfl rfl (Nat.le_of_ble_eq_true rfl) dX2_readAtom_18 ⟨(Nat.le_of_ble_eq_true rfl), (Nat.le_of_ble_eq_true rfl)⟩ (fun q_4 H locs hq5 hP hD hS => ?_)
    replace hq5 : (q_4 = 0 ∨ q_4 = 1) := hq5
    have hP : va_P g.1 vwCl (List.flatten [bLT g lt ta lo, bLaw g lo lc lz ll lm lg ld fc, bTape g ta ab sz ln kd bg nx ft fb]) H := hP
    have hD : va_D A (List.flatten [bLT g lt ta lo, bLaw g lo lc lz ll lm lg ld fc, bTape g ta ab sz ln kd bg nx ft fb]) := hD
    refine W.widen (k := 0) (n := 0) (Nat.le_of_ble_eq_true rfl) (Nat.le_of_ble_eq_true rfl) ?_
    refine W.eq (g2 := F0 m 21 ls [.int q_4]) rfl ?_
    rcases hq5 with rfl | rfl
    · skip
      refine lv_if_eq (tgt := 48) hx hb dX2_readAtom_21 (by decide) (fun _ => ?_) (fun c6 => absurd (by decide) c6)
      refine lv_aload_n hx hb dX2_readAtom_48 rfl (lv_at hl 0 rfl) ?_
      refine va_get (D := g.1) (ci := 2) (v := .ref ta) (C := RX2) (T := TX2) (N := 2) hx hb hts izRX2 hown hK hP 0 rfl rfl 0 (by decide) (hts _ k290) (fun x9 h9 => u_same (hts _ k291) x9 h9) rfl dX2_readAtom_49 ?_
      refine va_ldcS (q := g.2 22) hx hb hown (zra6 hT.2.1) dX2_readAtom_52 ?_
      refine mcallV' (g := g) (q0 := 0) (ci := 6) (As := [.ref (g.2 22)]) (rest := []) St hK hT hA hP hD hS hl.1 [2] [0, 1] rfl rfl rfl (c_t_takeWord l g ta ab sz ln kd bg nx ft fb (g.2 22) 6 zqa6 hln hnx hbg hkd hft rfl zla6 zna6) (cwV 1 hts (zgL (zl4 k310 k311 k312 k277) k284) rfl rfl rfl (by decide +kernel) ⟨Nat.le_of_ble_eq_true rfl, Nat.le_of_ble_eq_true rfl⟩) rfl rfl rfl rfl (Nat.le_of_ble_eq_true rfl) dX2_readAtom_54 ⟨(Nat.le_of_ble_eq_true rfl), (Nat.le_of_ble_eq_true rfl)⟩ (fun u_ H locs hq11 hP hD hS => ?_)
      obtain ⟨kd2_7, bg2_8, nx2_9, r_10⟩ := u_
      replace hq11 : (0 ≤ nx2_9.toInt ∧ nx2_9.toInt ≤ 400) ∧ (0 ≤ bg2_8.toInt ∧ bg2_8.toInt ≤ 400) ∧ (zKd kd2_7.toInt bg2_8.toInt nx2_9.toInt) ∧ (r_10 = 0 ∨ r_10 = 1) := hq11
      have hP : va_P g.1 vwCl (List.flatten [bLT g lt ta lo, bLaw g lo lc lz ll lm lg ld fc, bTape g ta ab sz ln kd2_7 bg2_8 nx2_9 ft fb]) H := hP
      have hD : va_D A (List.flatten [bLT g lt ta lo, bLaw g lo lc lz ll lm lg ld fc, bTape g ta ab sz ln kd2_7 bg2_8 nx2_9 ft fb]) := hD
      refine W.widen (k := 0) (n := 0) (Nat.le_of_ble_eq_true rfl) (Nat.le_of_ble_eq_true rfl) ?_
      refine W.eq (g2 := F0 m 57 ls [.int r_10]) rfl ?_
      obtain ⟨hq11_0, hq11_1, hq11_2, hq11_3⟩ := hq11
      rcases hq11_3 with rfl | rfl
      · skip
        refine lv_if_eq (tgt := 73) hx hb dX2_readAtom_57 (by decide) (fun _ => ?_) (fun c12 => absurd (by decide) c12)
        refine lv_aload_n hx hb dX2_readAtom_73 rfl (lv_at hl 0 rfl) ?_
        refine va_get (D := g.1) (ci := 2) (v := .ref ta) (C := RX2) (T := TX2) (N := 2) hx hb hts izRX2 hown hK hP 0 rfl rfl 0 (by decide) (hts _ k290) (fun x9 h9 => u_same (hts _ k291) x9 h9) rfl dX2_readAtom_74 ?_
        refine va_ldcS (q := g.2 24) hx hb hown (zra7 hT.2.1) dX2_readAtom_77 ?_
        refine mcallV' (g := g) (q0 := 0) (ci := 6) (As := [.ref (g.2 24)]) (rest := []) St hK hT hA hP hD hS hl.1 [2] [0, 1] rfl rfl rfl (c_t_takeWord l g ta ab sz ln kd2_7 bg2_8 nx2_9 ft fb (g.2 24) 7 zqa7 hln hq11_0 hq11_1 hq11_2 hft rfl zla7 zna7) (cwV 1 hts (zgL (zl4 k310 k311 k312 k277) k284) rfl rfl rfl (by decide +kernel) ⟨Nat.le_of_ble_eq_true rfl, Nat.le_of_ble_eq_true rfl⟩) rfl rfl rfl rfl (Nat.le_of_ble_eq_true rfl) dX2_readAtom_79 ⟨(Nat.le_of_ble_eq_true rfl), (Nat.le_of_ble_eq_true rfl)⟩ (fun u_ H locs hq17 hP hD hS => ?_)
        obtain ⟨kd2_13, bg2_14, nx2_15, r_16⟩ := u_
        replace hq17 : (0 ≤ nx2_15.toInt ∧ nx2_15.toInt ≤ 400) ∧ (0 ≤ bg2_14.toInt ∧ bg2_14.toInt ≤ 400) ∧ (zKd kd2_13.toInt bg2_14.toInt nx2_15.toInt) ∧ (r_16 = 0 ∨ r_16 = 1) := hq17
        have hP : va_P g.1 vwCl (List.flatten [bLT g lt ta lo, bLaw g lo lc lz ll lm lg ld fc, bTape g ta ab sz ln kd2_13 bg2_14 nx2_15 ft fb]) H := hP
        have hD : va_D A (List.flatten [bLT g lt ta lo, bLaw g lo lc lz ll lm lg ld fc, bTape g ta ab sz ln kd2_13 bg2_14 nx2_15 ft fb]) := hD
        refine W.widen (k := 0) (n := 0) (Nat.le_of_ble_eq_true rfl) (Nat.le_of_ble_eq_true rfl) ?_
        refine W.eq (g2 := F0 m 82 ls [.int r_16]) rfl ?_
        obtain ⟨hq17_0, hq17_1, hq17_2, hq17_3⟩ := hq17
        rcases hq17_3 with rfl | rfl
        · skip
          refine lv_if_eq (tgt := 98) hx hb dX2_readAtom_82 (by decide) (fun _ => ?_) (fun c18 => absurd (by decide) c18)
          refine lv_aload_n hx hb dX2_readAtom_98 rfl (lv_at hl 0 rfl) ?_
          refine mcallV' (g := g) (q0 := 0) (ci := 2) (As := []) (rest := []) St hK hT hA hP hD hS hl.1 [0, 2, 1] [] rfl rfl rfl (c_lt_readSum l g lt ta lo ab sz ln kd2_13 bg2_14 nx2_15 ft fb lc lz ll lm lg ld fc b_lz hln hq17_0 hq17_1 hq17_2 hft) (cwV 0 hts (zgL (zl4 k313 k314 k315 k309) k304) rfl rfl rfl (by decide +kernel) ⟨Nat.le_of_ble_eq_true rfl, Nat.le_of_ble_eq_true rfl⟩) rfl rfl rfl rfl (Nat.le_of_ble_eq_true rfl) dX2_readAtom_99 ⟨(Nat.le_of_ble_eq_true rfl), (Nat.le_of_ble_eq_true rfl)⟩ (fun u_ H locs hq26 hP hD hS => ?_)
          obtain ⟨kd2_19, bg2_20, nx2_21, ft2_22, lz2_23, fc2_24, q_25⟩ := u_
          replace hq26 : (0 ≤ lz2_23.toInt ∧ lz2_23.toInt ≤ 400) ∧ (-1 ≤ ft2_22.toInt) ∧ (0 ≤ nx2_21.toInt ∧ nx2_21.toInt ≤ 400) ∧ (0 ≤ bg2_20.toInt ∧ bg2_20.toInt ≤ 400) ∧ (zKd kd2_19.toInt bg2_20.toInt nx2_21.toInt) ∧ (q_25 = 0 ∨ q_25 = 1) := hq26
          have hP : va_P g.1 vwCl (List.flatten [bLT g lt ta lo, bTape g ta ab sz ln kd2_19 bg2_20 nx2_21 ft2_22 fb, bLaw g lo lc lz2_23 ll lm lg ld fc2_24]) H := hP
          have hD : va_D A (List.flatten [bLT g lt ta lo, bTape g ta ab sz ln kd2_19 bg2_20 nx2_21 ft2_22 fb, bLaw g lo lc lz2_23 ll lm lg ld fc2_24]) := hD
          refine W.widen (k := 0) (n := 0) (Nat.le_of_ble_eq_true rfl) (Nat.le_of_ble_eq_true rfl) ?_
          refine W.eq (g2 := F0 m 102 ls [.int q_25]) rfl ?_
          obtain ⟨hq26_0, hq26_1, hq26_2, hq26_3, hq26_4, hq26_5⟩ := hq26
          rcases hq26_5 with rfl | rfl
          · skip
            refine lv_if_ne (tgt := 107) hx hb dX2_readAtom_102 (by decide) (fun c27 => absurd (by decide) c27) (fun _ => ?_)
            refine lv_iconst (v := 0) hx hb dX2_readAtom_105 (by decide) ?_
            have hP : va_P g.1 vwCl (List.flatten [bLT g lt ta lo, bTape g ta ab sz ln kd2_19 bg2_20 nx2_21 ft2_22 fb, bLaw g lo lc lz2_23 ll lm lg ld fc2_24]) H := hP
            have hD : va_D A (List.flatten [bLT g lt ta lo, bTape g ta ab sz ln kd2_19 bg2_20 nx2_21 ft2_22 fb, bLaw g lo lc lz2_23 ll lm lg ld fc2_24]) := hD
            exact mret_z hx hb hr hlocks hS (Nat.le_of_ble_eq_true rfl) (Nat.le_of_ble_eq_true rfl) dX2_readAtom_106 (kd2_19, bg2_20, nx2_21, ft2_22, lz2_23, fc2_24, (0 : Int32)) rfl (by decide) (show (0 ≤ lz2_23.toInt ∧ lz2_23.toInt ≤ 400) ∧ (-1 ≤ ft2_22.toInt) ∧ (0 ≤ nx2_21.toInt ∧ nx2_21.toInt ≤ 400) ∧ (0 ≤ bg2_20.toInt ∧ bg2_20.toInt ≤ 400) ∧ (zKd kd2_19.toInt bg2_20.toInt nx2_21.toInt) ∧ (0 = 0 ∨ 0 = 1) from ⟨hq26_0, hq26_1, hq26_2, hq26_3, hq26_4, (by decide)⟩) hP hD
          · skip
            refine lv_if_ne (tgt := 107) hx hb dX2_readAtom_102 (by decide) (fun _ => ?_) (fun c28 => absurd c28 (by decide))
            refine lv_aload_n hx hb dX2_readAtom_107 rfl (lv_at hl 0 rfl) ?_
            refine va_get (D := g.1) (ci := 2) (v := .ref ta) (C := RX2) (T := TX2) (N := 2) hx hb hts izRX2 hown hK hP 0 rfl rfl 0 (by decide) (hts _ k290) (fun x9 h9 => u_same (hts _ k291) x9 h9) rfl dX2_readAtom_108 ?_
            refine lv_bipush (v := 60) hx hb dX2_readAtom_111 (by decide) ?_
            refine mcallV' (g := g) (q0 := 0) (ci := 6) (As := [.int 60]) (rest := []) St hK hT hA hP hD hS hl.1 [1] [0, 2] rfl rfl rfl (c_t_isSign l g ta ab sz ln kd2_19 bg2_20 nx2_21 ft2_22 fb 60 hln hq26_2 hq26_3 hq26_4 hq26_1) (cwV 1 hts (zgL (zl4 k305 k288 k289 k277) k285) rfl rfl rfl (by decide +kernel) ⟨Nat.le_of_ble_eq_true rfl, Nat.le_of_ble_eq_true rfl⟩) rfl rfl rfl rfl (Nat.le_of_ble_eq_true rfl) dX2_readAtom_113 ⟨(Nat.le_of_ble_eq_true rfl), (Nat.le_of_ble_eq_true rfl)⟩ (fun q_29 H locs hq30 hP hD hS => ?_)
            replace hq30 : (q_29 = 0 ∨ q_29 = 1) := hq30
            have hP : va_P g.1 vwCl (List.flatten [bLT g lt ta lo, bLaw g lo lc lz2_23 ll lm lg ld fc2_24, bTape g ta ab sz ln kd2_19 bg2_20 nx2_21 ft2_22 fb]) H := hP
            have hD : va_D A (List.flatten [bLT g lt ta lo, bLaw g lo lc lz2_23 ll lm lg ld fc2_24, bTape g ta ab sz ln kd2_19 bg2_20 nx2_21 ft2_22 fb]) := hD
            refine W.widen (k := 0) (n := 0) (Nat.le_of_ble_eq_true rfl) (Nat.le_of_ble_eq_true rfl) ?_
            refine W.eq (g2 := F0 m 116 ls [.int q_29]) rfl ?_
            rcases hq30 with rfl | rfl
            · skip
              refine lv_istore_n (lv' := [(2, .int 0), (0, .ref lt), (1, .int 4)]) hx hb dX2_readAtom_116 rfl hl (by decide) rfl (fun ls hl => ?_)
              refine lv_iload_n hx hb dX2_readAtom_117 rfl (lv_at hl 0 rfl) ?_
              refine lv_if_ne (tgt := 141) hx hb dX2_readAtom_118 (by decide) (fun c31 => absurd (by decide) c31) (fun _ => ?_)
              refine lv_aload_n hx hb dX2_readAtom_121 rfl (lv_at hl 1 rfl) ?_
              refine va_get (D := g.1) (ci := 2) (v := .ref ta) (C := RX2) (T := TX2) (N := 2) hx hb hts izRX2 hown hK hP 0 rfl rfl 0 (by decide) (hts _ k290) (fun x9 h9 => u_same (hts _ k291) x9 h9) rfl dX2_readAtom_122 ?_
              refine lv_bipush (v := 62) hx hb dX2_readAtom_125 (by decide) ?_
              refine mcallV' (g := g) (q0 := 0) (ci := 6) (As := [.int 62]) (rest := []) St hK hT hA hP hD hS hl.1 [2] [0, 1] rfl rfl rfl (c_t_isSign l g ta ab sz ln kd2_19 bg2_20 nx2_21 ft2_22 fb 62 hln hq26_2 hq26_3 hq26_4 hq26_1) (cwV 1 hts (zgL (zl4 k305 k288 k289 k277) k285) rfl rfl rfl (by decide +kernel) ⟨Nat.le_of_ble_eq_true rfl, Nat.le_of_ble_eq_true rfl⟩) rfl rfl rfl rfl (Nat.le_of_ble_eq_true rfl) dX2_readAtom_127 ⟨(Nat.le_of_ble_eq_true rfl), (Nat.le_of_ble_eq_true rfl)⟩ (fun q_32 H locs hq33 hP hD hS => ?_)
              replace hq33 : (q_32 = 0 ∨ q_32 = 1) := hq33
              have hP : va_P g.1 vwCl (List.flatten [bLT g lt ta lo, bLaw g lo lc lz2_23 ll lm lg ld fc2_24, bTape g ta ab sz ln kd2_19 bg2_20 nx2_21 ft2_22 fb]) H := hP
              have hD : va_D A (List.flatten [bLT g lt ta lo, bLaw g lo lc lz2_23 ll lm lg ld fc2_24, bTape g ta ab sz ln kd2_19 bg2_20 nx2_21 ft2_22 fb]) := hD
              refine W.widen (k := 0) (n := 0) (Nat.le_of_ble_eq_true rfl) (Nat.le_of_ble_eq_true rfl) ?_
              refine W.eq (g2 := F0 m 130 ls [.int q_32]) rfl ?_
              rcases hq33 with rfl | rfl
              · skip
                refine lv_if_ne (tgt := 141) hx hb dX2_readAtom_130 (by decide) (fun c34 => absurd (by decide) c34) (fun _ => ?_)
                refine lv_aload_n hx hb dX2_readAtom_133 rfl (lv_at hl 1 rfl) ?_
                refine va_get (D := g.1) (ci := 2) (v := .ref ta) (C := RX2) (T := TX2) (N := 2) hx hb hts izRX2 hown hK hP 0 rfl rfl 0 (by decide) (hts _ k290) (fun x9 h9 => u_same (hts _ k291) x9 h9) rfl dX2_readAtom_134 ?_
                refine mcallV' (g := g) (q0 := 0) (ci := 6) (As := []) (rest := []) St hK hT hA hP hD hS hl.1 [2] [0, 1] rfl rfl rfl (c_t_refuse l g ta ab sz ln kd2_19 bg2_20 nx2_21 ft2_22 fb hln hq26_2 hq26_3 hq26_4 hq26_1) (cwV 0 hts (zgL (zl4 k303 k279 k280 k277) k269) rfl rfl rfl (by decide +kernel) ⟨Nat.le_of_ble_eq_true rfl, Nat.le_of_ble_eq_true rfl⟩) rfl rfl rfl rfl (Nat.le_of_ble_eq_true rfl) dX2_readAtom_137 ⟨(Nat.le_of_ble_eq_true rfl), (Nat.le_of_ble_eq_true rfl)⟩ (fun ft2_35 H locs hq36 hP hD hS => ?_)
                replace hq36 : (-1 ≤ ft2_35.toInt) := hq36
                have hP : va_P g.1 vwCl (List.flatten [bLT g lt ta lo, bLaw g lo lc lz2_23 ll lm lg ld fc2_24, bTape g ta ab sz ln kd2_19 bg2_20 nx2_21 ft2_35 fb]) H := hP
                have hD : va_D A (List.flatten [bLT g lt ta lo, bLaw g lo lc lz2_23 ll lm lg ld fc2_24, bTape g ta ab sz ln kd2_19 bg2_20 nx2_21 ft2_35 fb]) := hD
                refine W.widen (k := 0) (n := 0) (Nat.le_of_ble_eq_true rfl) (Nat.le_of_ble_eq_true rfl) ?_
                refine W.eq (g2 := F0 m 140 ls [.int 0]) rfl ?_
                have hP : va_P g.1 vwCl (List.flatten [bLT g lt ta lo, bLaw g lo lc lz2_23 ll lm lg ld fc2_24, bTape g ta ab sz ln kd2_19 bg2_20 nx2_21 ft2_35 fb]) H := hP
                have hD : va_D A (List.flatten [bLT g lt ta lo, bLaw g lo lc lz2_23 ll lm lg ld fc2_24, bTape g ta ab sz ln kd2_19 bg2_20 nx2_21 ft2_35 fb]) := hD
                obtain ⟨hP, hD⟩ := zord (g := g) (Bs' := [bLT g lt ta lo, bTape g ta ab sz ln kd2_19 bg2_20 nx2_21 ft2_35 fb, bLaw g lo lc lz2_23 ll lm lg ld fc2_24]) [0, 2, 1] rfl rfl hP hD
                exact mret_z hx hb hr hlocks hS (Nat.le_of_ble_eq_true rfl) (Nat.le_of_ble_eq_true rfl) dX2_readAtom_140 (kd2_19, bg2_20, nx2_21, ft2_35, lz2_23, fc2_24, (0 : Int32)) rfl (by decide) (show (0 ≤ lz2_23.toInt ∧ lz2_23.toInt ≤ 400) ∧ (-1 ≤ ft2_35.toInt) ∧ (0 ≤ nx2_21.toInt ∧ nx2_21.toInt ≤ 400) ∧ (0 ≤ bg2_20.toInt ∧ bg2_20.toInt ≤ 400) ∧ (zKd kd2_19.toInt bg2_20.toInt nx2_21.toInt) ∧ (0 = 0 ∨ 0 = 1) from ⟨hq26_0, hq36, hq26_2, hq26_3, hq26_4, (by decide)⟩) hP hD
              · skip
                refine lv_if_ne (tgt := 141) hx hb dX2_readAtom_130 (by decide) (fun _ => ?_) (fun c37 => absurd c37 (by decide))
                refine lv_aload_n hx hb dX2_readAtom_141 rfl (lv_at hl 1 rfl) ?_
                refine va_get (D := g.1) (ci := 2) (v := .ref ta) (C := RX2) (T := TX2) (N := 2) hx hb hts izRX2 hown hK hP 0 rfl rfl 0 (by decide) (hts _ k290) (fun x9 h9 => u_same (hts _ k291) x9 h9) rfl dX2_readAtom_142 ?_
                refine mcallV' (g := g) (q0 := 0) (ci := 6) (As := []) (rest := []) St hK hT hA hP hD hS hl.1 [2] [0, 1] rfl rfl rfl (c_t_step l g ta ab sz ln kd2_19 bg2_20 nx2_21 ft2_22 fb hln hq26_2) (cwV 0 hts (zgL (zl4 k296 k275 k276 k277) k271) rfl rfl rfl (by decide +kernel) ⟨Nat.le_of_ble_eq_true rfl, Nat.le_of_ble_eq_true rfl⟩) rfl rfl rfl rfl (Nat.le_of_ble_eq_true rfl) dX2_readAtom_145 ⟨(Nat.le_of_ble_eq_true rfl), (Nat.le_of_ble_eq_true rfl)⟩ (fun u_ H locs hq41 hP hD hS => ?_)
                obtain ⟨kd2_38, bg2_39, nx2_40⟩ := u_
                replace hq41 : (0 ≤ nx2_40.toInt ∧ nx2_40.toInt ≤ 400) ∧ (0 ≤ bg2_39.toInt ∧ bg2_39.toInt ≤ 400) ∧ (zKd kd2_38.toInt bg2_39.toInt nx2_40.toInt) := hq41
                have hP : va_P g.1 vwCl (List.flatten [bLT g lt ta lo, bLaw g lo lc lz2_23 ll lm lg ld fc2_24, bTape g ta ab sz ln kd2_38 bg2_39 nx2_40 ft2_22 fb]) H := hP
                have hD : va_D A (List.flatten [bLT g lt ta lo, bLaw g lo lc lz2_23 ll lm lg ld fc2_24, bTape g ta ab sz ln kd2_38 bg2_39 nx2_40 ft2_22 fb]) := hD
                refine W.widen (k := 0) (n := 0) (Nat.le_of_ble_eq_true rfl) (Nat.le_of_ble_eq_true rfl) ?_
                refine W.eq (g2 := F0 m 148 ls []) rfl ?_
                obtain ⟨hq41_0, hq41_1, hq41_2⟩ := hq41
                refine lv_aload_n hx hb dX2_readAtom_148 rfl (lv_at hl 1 rfl) ?_
                refine va_get (D := g.1) (ci := 2) (v := .ref lo) (C := RX2) (T := TX2) (N := 2) hx hb hts izRX2 hown hK hP 0 rfl rfl 1 (by decide) (hts _ k210) (fun _ h9 => h9) rfl dX2_readAtom_149 ?_
                refine lv_bipush (v := 7) hx hb dX2_readAtom_152 (by decide) ?_
                refine lv_iconst (v := 0) hx hb dX2_readAtom_154 (by decide) ?_
                refine mcallV' (g := g) (q0 := 0) (ci := 1) (As := [.int 7, .int 0]) (rest := []) St hK hT hA hP hD hS hl.1 [1] [0, 2] rfl rfl rfl (c_l_put l g lo lc lz2_23 ll lm lg ld fc2_24 7 0 hq26_0) (cwV 2 hts (zgL (zl4 k297 k298 k299 k85) k202) rfl rfl rfl (by decide +kernel) ⟨Nat.le_of_ble_eq_true rfl, Nat.le_of_ble_eq_true rfl⟩) rfl rfl rfl rfl (Nat.le_of_ble_eq_true rfl) dX2_readAtom_155 ⟨(Nat.le_of_ble_eq_true rfl), (Nat.le_of_ble_eq_true rfl)⟩ (fun u_ H locs hq45 hP hD hS => ?_)
                obtain ⟨lz2_42, fc2_43, q_44⟩ := u_
                replace hq45 : (0 ≤ lz2_42.toInt ∧ lz2_42.toInt ≤ 400) := hq45
                have hP : va_P g.1 vwCl (List.flatten [bLT g lt ta lo, bTape g ta ab sz ln kd2_38 bg2_39 nx2_40 ft2_22 fb, bLaw g lo lc lz2_42 ll lm lg ld fc2_43]) H := hP
                have hD : va_D A (List.flatten [bLT g lt ta lo, bTape g ta ab sz ln kd2_38 bg2_39 nx2_40 ft2_22 fb, bLaw g lo lc lz2_42 ll lm lg ld fc2_43]) := hD
                refine W.widen (k := 0) (n := 0) (Nat.le_of_ble_eq_true rfl) (Nat.le_of_ble_eq_true rfl) ?_
                refine W.eq (g2 := F0 m 158 ls [.int q_44]) rfl ?_
                refine lv_pop hx hb dX2_readAtom_158 rfl ?_
                refine lv_aload_n hx hb dX2_readAtom_159 rfl (lv_at hl 1 rfl) ?_
                refine mcallV' (g := g) (q0 := 0) (ci := 2) (As := []) (rest := []) St hK hT hA hP hD hS hl.1 [0, 1, 2] [] rfl rfl rfl (c_lt_readSum l g lt ta lo ab sz ln kd2_38 bg2_39 nx2_40 ft2_22 fb lc lz2_42 ll lm lg ld fc2_43 hq45 hln hq41_0 hq41_1 hq41_2 hq26_1) (cwV 0 hts (zgL (zl4 k313 k314 k315 k309) k304) rfl rfl rfl (by decide +kernel) ⟨Nat.le_of_ble_eq_true rfl, Nat.le_of_ble_eq_true rfl⟩) rfl rfl rfl rfl (Nat.le_of_ble_eq_true rfl) dX2_readAtom_160 ⟨(Nat.le_of_ble_eq_true rfl), (Nat.le_of_ble_eq_true rfl)⟩ (fun u_ H locs hq53 hP hD hS => ?_)
                obtain ⟨kd2_46, bg2_47, nx2_48, ft2_49, lz2_50, fc2_51, q_52⟩ := u_
                replace hq53 : (0 ≤ lz2_50.toInt ∧ lz2_50.toInt ≤ 400) ∧ (-1 ≤ ft2_49.toInt) ∧ (0 ≤ nx2_48.toInt ∧ nx2_48.toInt ≤ 400) ∧ (0 ≤ bg2_47.toInt ∧ bg2_47.toInt ≤ 400) ∧ (zKd kd2_46.toInt bg2_47.toInt nx2_48.toInt) ∧ (q_52 = 0 ∨ q_52 = 1) := hq53
                have hP : va_P g.1 vwCl (List.flatten [bLT g lt ta lo, bTape g ta ab sz ln kd2_46 bg2_47 nx2_48 ft2_49 fb, bLaw g lo lc lz2_50 ll lm lg ld fc2_51]) H := hP
                have hD : va_D A (List.flatten [bLT g lt ta lo, bTape g ta ab sz ln kd2_46 bg2_47 nx2_48 ft2_49 fb, bLaw g lo lc lz2_50 ll lm lg ld fc2_51]) := hD
                refine W.widen (k := 0) (n := 0) (Nat.le_of_ble_eq_true rfl) (Nat.le_of_ble_eq_true rfl) ?_
                refine W.eq (g2 := F0 m 163 ls [.int q_52]) rfl ?_
                obtain ⟨hq53_0, hq53_1, hq53_2, hq53_3, hq53_4, hq53_5⟩ := hq53
                rcases hq53_5 with rfl | rfl
                · skip
                  refine lv_if_ne (tgt := 168) hx hb dX2_readAtom_163 (by decide) (fun c54 => absurd (by decide) c54) (fun _ => ?_)
                  refine lv_iconst (v := 0) hx hb dX2_readAtom_166 (by decide) ?_
                  have hP : va_P g.1 vwCl (List.flatten [bLT g lt ta lo, bTape g ta ab sz ln kd2_46 bg2_47 nx2_48 ft2_49 fb, bLaw g lo lc lz2_50 ll lm lg ld fc2_51]) H := hP
                  have hD : va_D A (List.flatten [bLT g lt ta lo, bTape g ta ab sz ln kd2_46 bg2_47 nx2_48 ft2_49 fb, bLaw g lo lc lz2_50 ll lm lg ld fc2_51]) := hD
                  exact mret_z hx hb hr hlocks hS (Nat.le_of_ble_eq_true rfl) (Nat.le_of_ble_eq_true rfl) dX2_readAtom_167 (kd2_46, bg2_47, nx2_48, ft2_49, lz2_50, fc2_51, (0 : Int32)) rfl (by decide) (show (0 ≤ lz2_50.toInt ∧ lz2_50.toInt ≤ 400) ∧ (-1 ≤ ft2_49.toInt) ∧ (0 ≤ nx2_48.toInt ∧ nx2_48.toInt ≤ 400) ∧ (0 ≤ bg2_47.toInt ∧ bg2_47.toInt ≤ 400) ∧ (zKd kd2_46.toInt bg2_47.toInt nx2_48.toInt) ∧ (0 = 0 ∨ 0 = 1) from ⟨hq53_0, hq53_1, hq53_2, hq53_3, hq53_4, (by decide)⟩) hP hD
                · skip
                  refine lv_if_ne (tgt := 168) hx hb dX2_readAtom_163 (by decide) (fun _ => ?_) (fun c55 => absurd c55 (by decide))
                  refine lv_aload_n hx hb dX2_readAtom_168 rfl (lv_at hl 1 rfl) ?_
                  refine va_get (D := g.1) (ci := 2) (v := .ref lo) (C := RX2) (T := TX2) (N := 2) hx hb hts izRX2 hown hK hP 0 rfl rfl 1 (by decide) (hts _ k210) (fun _ h9 => h9) rfl dX2_readAtom_169 ?_
                  refine lv_iload_n hx hb dX2_readAtom_172 rfl (lv_at hl 0 rfl) ?_
                  refine lv_if_eq (tgt := 181) hx hb dX2_readAtom_173 (by decide) (fun _ => ?_) (fun c56 => absurd (by decide) c56)
                  refine lv_bipush (v := 9) hx hb dX2_readAtom_181 (by decide) ?_
                  refine lv_iconst (v := 0) hx hb dX2_readAtom_183 (by decide) ?_
                  refine mcallV' (g := g) (q0 := 0) (ci := 1) (As := [.int 9, .int 0]) (rest := []) St hK hT hA hP hD hS hl.1 [2] [0, 1] rfl rfl rfl (c_l_put l g lo lc lz2_50 ll lm lg ld fc2_51 9 0 hq53_0) (cwV 2 hts (zgL (zl4 k297 k298 k299 k85) k202) rfl rfl rfl (by decide +kernel) ⟨Nat.le_of_ble_eq_true rfl, Nat.le_of_ble_eq_true rfl⟩) rfl rfl rfl rfl (Nat.le_of_ble_eq_true rfl) dX2_readAtom_184 ⟨(Nat.le_of_ble_eq_true rfl), (Nat.le_of_ble_eq_true rfl)⟩ (fun u_ H locs hq60 hP hD hS => ?_)
                  obtain ⟨lz2_57, fc2_58, q_59⟩ := u_
                  replace hq60 : (0 ≤ lz2_57.toInt ∧ lz2_57.toInt ≤ 400) := hq60
                  have hP : va_P g.1 vwCl (List.flatten [bLT g lt ta lo, bTape g ta ab sz ln kd2_46 bg2_47 nx2_48 ft2_49 fb, bLaw g lo lc lz2_57 ll lm lg ld fc2_58]) H := hP
                  have hD : va_D A (List.flatten [bLT g lt ta lo, bTape g ta ab sz ln kd2_46 bg2_47 nx2_48 ft2_49 fb, bLaw g lo lc lz2_57 ll lm lg ld fc2_58]) := hD
                  refine W.widen (k := 0) (n := 0) (Nat.le_of_ble_eq_true rfl) (Nat.le_of_ble_eq_true rfl) ?_
                  refine W.eq (g2 := F0 m 187 ls [.int q_59]) rfl ?_
                  refine lv_pop hx hb dX2_readAtom_187 rfl ?_
                  refine lv_iconst (v := 1) hx hb dX2_readAtom_188 (by decide) ?_
                  have hP : va_P g.1 vwCl (List.flatten [bLT g lt ta lo, bTape g ta ab sz ln kd2_46 bg2_47 nx2_48 ft2_49 fb, bLaw g lo lc lz2_57 ll lm lg ld fc2_58]) H := hP
                  have hD : va_D A (List.flatten [bLT g lt ta lo, bTape g ta ab sz ln kd2_46 bg2_47 nx2_48 ft2_49 fb, bLaw g lo lc lz2_57 ll lm lg ld fc2_58]) := hD
                  exact mret_z hx hb hr hlocks hS (Nat.le_of_ble_eq_true rfl) (Nat.le_of_ble_eq_true rfl) dX2_readAtom_189 (kd2_46, bg2_47, nx2_48, ft2_49, lz2_57, fc2_58, (1 : Int32)) rfl (by decide) (show (0 ≤ lz2_57.toInt ∧ lz2_57.toInt ≤ 400) ∧ (-1 ≤ ft2_49.toInt) ∧ (0 ≤ nx2_48.toInt ∧ nx2_48.toInt ≤ 400) ∧ (0 ≤ bg2_47.toInt ∧ bg2_47.toInt ≤ 400) ∧ (zKd kd2_46.toInt bg2_47.toInt nx2_48.toInt) ∧ (1 = 0 ∨ 1 = 1) from ⟨hq60, hq53_1, hq53_2, hq53_3, hq53_4, (by decide)⟩) hP hD
            · skip
              refine lv_istore_n (lv' := [(2, .int 1), (0, .ref lt), (1, .int 4)]) hx hb dX2_readAtom_116 rfl hl (by decide) rfl (fun ls hl => ?_)
              refine lv_iload_n hx hb dX2_readAtom_117 rfl (lv_at hl 0 rfl) ?_
              refine lv_if_ne (tgt := 141) hx hb dX2_readAtom_118 (by decide) (fun _ => ?_) (fun c61 => absurd c61 (by decide))
              refine lv_aload_n hx hb dX2_readAtom_141 rfl (lv_at hl 1 rfl) ?_
              refine va_get (D := g.1) (ci := 2) (v := .ref ta) (C := RX2) (T := TX2) (N := 2) hx hb hts izRX2 hown hK hP 0 rfl rfl 0 (by decide) (hts _ k290) (fun x9 h9 => u_same (hts _ k291) x9 h9) rfl dX2_readAtom_142 ?_
              refine mcallV' (g := g) (q0 := 0) (ci := 6) (As := []) (rest := []) St hK hT hA hP hD hS hl.1 [2] [0, 1] rfl rfl rfl (c_t_step l g ta ab sz ln kd2_19 bg2_20 nx2_21 ft2_22 fb hln hq26_2) (cwV 0 hts (zgL (zl4 k296 k275 k276 k277) k271) rfl rfl rfl (by decide +kernel) ⟨Nat.le_of_ble_eq_true rfl, Nat.le_of_ble_eq_true rfl⟩) rfl rfl rfl rfl (Nat.le_of_ble_eq_true rfl) dX2_readAtom_145 ⟨(Nat.le_of_ble_eq_true rfl), (Nat.le_of_ble_eq_true rfl)⟩ (fun u_ H locs hq65 hP hD hS => ?_)
              obtain ⟨kd2_62, bg2_63, nx2_64⟩ := u_
              replace hq65 : (0 ≤ nx2_64.toInt ∧ nx2_64.toInt ≤ 400) ∧ (0 ≤ bg2_63.toInt ∧ bg2_63.toInt ≤ 400) ∧ (zKd kd2_62.toInt bg2_63.toInt nx2_64.toInt) := hq65
              have hP : va_P g.1 vwCl (List.flatten [bLT g lt ta lo, bLaw g lo lc lz2_23 ll lm lg ld fc2_24, bTape g ta ab sz ln kd2_62 bg2_63 nx2_64 ft2_22 fb]) H := hP
              have hD : va_D A (List.flatten [bLT g lt ta lo, bLaw g lo lc lz2_23 ll lm lg ld fc2_24, bTape g ta ab sz ln kd2_62 bg2_63 nx2_64 ft2_22 fb]) := hD
              refine W.widen (k := 0) (n := 0) (Nat.le_of_ble_eq_true rfl) (Nat.le_of_ble_eq_true rfl) ?_
              refine W.eq (g2 := F0 m 148 ls []) rfl ?_
              obtain ⟨hq65_0, hq65_1, hq65_2⟩ := hq65
              refine lv_aload_n hx hb dX2_readAtom_148 rfl (lv_at hl 1 rfl) ?_
              refine va_get (D := g.1) (ci := 2) (v := .ref lo) (C := RX2) (T := TX2) (N := 2) hx hb hts izRX2 hown hK hP 0 rfl rfl 1 (by decide) (hts _ k210) (fun _ h9 => h9) rfl dX2_readAtom_149 ?_
              refine lv_bipush (v := 7) hx hb dX2_readAtom_152 (by decide) ?_
              refine lv_iconst (v := 0) hx hb dX2_readAtom_154 (by decide) ?_
              refine mcallV' (g := g) (q0 := 0) (ci := 1) (As := [.int 7, .int 0]) (rest := []) St hK hT hA hP hD hS hl.1 [1] [0, 2] rfl rfl rfl (c_l_put l g lo lc lz2_23 ll lm lg ld fc2_24 7 0 hq26_0) (cwV 2 hts (zgL (zl4 k297 k298 k299 k85) k202) rfl rfl rfl (by decide +kernel) ⟨Nat.le_of_ble_eq_true rfl, Nat.le_of_ble_eq_true rfl⟩) rfl rfl rfl rfl (Nat.le_of_ble_eq_true rfl) dX2_readAtom_155 ⟨(Nat.le_of_ble_eq_true rfl), (Nat.le_of_ble_eq_true rfl)⟩ (fun u_ H locs hq69 hP hD hS => ?_)
              obtain ⟨lz2_66, fc2_67, q_68⟩ := u_
              replace hq69 : (0 ≤ lz2_66.toInt ∧ lz2_66.toInt ≤ 400) := hq69
              have hP : va_P g.1 vwCl (List.flatten [bLT g lt ta lo, bTape g ta ab sz ln kd2_62 bg2_63 nx2_64 ft2_22 fb, bLaw g lo lc lz2_66 ll lm lg ld fc2_67]) H := hP
              have hD : va_D A (List.flatten [bLT g lt ta lo, bTape g ta ab sz ln kd2_62 bg2_63 nx2_64 ft2_22 fb, bLaw g lo lc lz2_66 ll lm lg ld fc2_67]) := hD
              refine W.widen (k := 0) (n := 0) (Nat.le_of_ble_eq_true rfl) (Nat.le_of_ble_eq_true rfl) ?_
              refine W.eq (g2 := F0 m 158 ls [.int q_68]) rfl ?_
              refine lv_pop hx hb dX2_readAtom_158 rfl ?_
              refine lv_aload_n hx hb dX2_readAtom_159 rfl (lv_at hl 1 rfl) ?_
              refine mcallV' (g := g) (q0 := 0) (ci := 2) (As := []) (rest := []) St hK hT hA hP hD hS hl.1 [0, 1, 2] [] rfl rfl rfl (c_lt_readSum l g lt ta lo ab sz ln kd2_62 bg2_63 nx2_64 ft2_22 fb lc lz2_66 ll lm lg ld fc2_67 hq69 hln hq65_0 hq65_1 hq65_2 hq26_1) (cwV 0 hts (zgL (zl4 k313 k314 k315 k309) k304) rfl rfl rfl (by decide +kernel) ⟨Nat.le_of_ble_eq_true rfl, Nat.le_of_ble_eq_true rfl⟩) rfl rfl rfl rfl (Nat.le_of_ble_eq_true rfl) dX2_readAtom_160 ⟨(Nat.le_of_ble_eq_true rfl), (Nat.le_of_ble_eq_true rfl)⟩ (fun u_ H locs hq77 hP hD hS => ?_)
              obtain ⟨kd2_70, bg2_71, nx2_72, ft2_73, lz2_74, fc2_75, q_76⟩ := u_
              replace hq77 : (0 ≤ lz2_74.toInt ∧ lz2_74.toInt ≤ 400) ∧ (-1 ≤ ft2_73.toInt) ∧ (0 ≤ nx2_72.toInt ∧ nx2_72.toInt ≤ 400) ∧ (0 ≤ bg2_71.toInt ∧ bg2_71.toInt ≤ 400) ∧ (zKd kd2_70.toInt bg2_71.toInt nx2_72.toInt) ∧ (q_76 = 0 ∨ q_76 = 1) := hq77
              have hP : va_P g.1 vwCl (List.flatten [bLT g lt ta lo, bTape g ta ab sz ln kd2_70 bg2_71 nx2_72 ft2_73 fb, bLaw g lo lc lz2_74 ll lm lg ld fc2_75]) H := hP
              have hD : va_D A (List.flatten [bLT g lt ta lo, bTape g ta ab sz ln kd2_70 bg2_71 nx2_72 ft2_73 fb, bLaw g lo lc lz2_74 ll lm lg ld fc2_75]) := hD
              refine W.widen (k := 0) (n := 0) (Nat.le_of_ble_eq_true rfl) (Nat.le_of_ble_eq_true rfl) ?_
              refine W.eq (g2 := F0 m 163 ls [.int q_76]) rfl ?_
              obtain ⟨hq77_0, hq77_1, hq77_2, hq77_3, hq77_4, hq77_5⟩ := hq77
              rcases hq77_5 with rfl | rfl
              · skip
                refine lv_if_ne (tgt := 168) hx hb dX2_readAtom_163 (by decide) (fun c78 => absurd (by decide) c78) (fun _ => ?_)
                refine lv_iconst (v := 0) hx hb dX2_readAtom_166 (by decide) ?_
                have hP : va_P g.1 vwCl (List.flatten [bLT g lt ta lo, bTape g ta ab sz ln kd2_70 bg2_71 nx2_72 ft2_73 fb, bLaw g lo lc lz2_74 ll lm lg ld fc2_75]) H := hP
                have hD : va_D A (List.flatten [bLT g lt ta lo, bTape g ta ab sz ln kd2_70 bg2_71 nx2_72 ft2_73 fb, bLaw g lo lc lz2_74 ll lm lg ld fc2_75]) := hD
                exact mret_z hx hb hr hlocks hS (Nat.le_of_ble_eq_true rfl) (Nat.le_of_ble_eq_true rfl) dX2_readAtom_167 (kd2_70, bg2_71, nx2_72, ft2_73, lz2_74, fc2_75, (0 : Int32)) rfl (by decide) (show (0 ≤ lz2_74.toInt ∧ lz2_74.toInt ≤ 400) ∧ (-1 ≤ ft2_73.toInt) ∧ (0 ≤ nx2_72.toInt ∧ nx2_72.toInt ≤ 400) ∧ (0 ≤ bg2_71.toInt ∧ bg2_71.toInt ≤ 400) ∧ (zKd kd2_70.toInt bg2_71.toInt nx2_72.toInt) ∧ (0 = 0 ∨ 0 = 1) from ⟨hq77_0, hq77_1, hq77_2, hq77_3, hq77_4, (by decide)⟩) hP hD
              · skip
                refine lv_if_ne (tgt := 168) hx hb dX2_readAtom_163 (by decide) (fun _ => ?_) (fun c79 => absurd c79 (by decide))
                refine lv_aload_n hx hb dX2_readAtom_168 rfl (lv_at hl 1 rfl) ?_
                refine va_get (D := g.1) (ci := 2) (v := .ref lo) (C := RX2) (T := TX2) (N := 2) hx hb hts izRX2 hown hK hP 0 rfl rfl 1 (by decide) (hts _ k210) (fun _ h9 => h9) rfl dX2_readAtom_169 ?_
                refine lv_iload_n hx hb dX2_readAtom_172 rfl (lv_at hl 0 rfl) ?_
                refine lv_if_eq (tgt := 181) hx hb dX2_readAtom_173 (by decide) (fun c80 => absurd c80 (by decide)) (fun _ => ?_)
                refine lv_bipush (v := 8) hx hb dX2_readAtom_176 (by decide) ?_
                refine lv_goto (tgt := 183) hx hb dX2_readAtom_178 (by decide) ?_
                refine lv_iconst (v := 0) hx hb dX2_readAtom_183 (by decide) ?_
                refine mcallV' (g := g) (q0 := 0) (ci := 1) (As := [.int 8, .int 0]) (rest := []) St hK hT hA hP hD hS hl.1 [2] [0, 1] rfl rfl rfl (c_l_put l g lo lc lz2_74 ll lm lg ld fc2_75 8 0 hq77_0) (cwV 2 hts (zgL (zl4 k297 k298 k299 k85) k202) rfl rfl rfl (by decide +kernel) ⟨Nat.le_of_ble_eq_true rfl, Nat.le_of_ble_eq_true rfl⟩) rfl rfl rfl rfl (Nat.le_of_ble_eq_true rfl) dX2_readAtom_184 ⟨(Nat.le_of_ble_eq_true rfl), (Nat.le_of_ble_eq_true rfl)⟩ (fun u_ H locs hq84 hP hD hS => ?_)
                obtain ⟨lz2_81, fc2_82, q_83⟩ := u_
                replace hq84 : (0 ≤ lz2_81.toInt ∧ lz2_81.toInt ≤ 400) := hq84
                have hP : va_P g.1 vwCl (List.flatten [bLT g lt ta lo, bTape g ta ab sz ln kd2_70 bg2_71 nx2_72 ft2_73 fb, bLaw g lo lc lz2_81 ll lm lg ld fc2_82]) H := hP
                have hD : va_D A (List.flatten [bLT g lt ta lo, bTape g ta ab sz ln kd2_70 bg2_71 nx2_72 ft2_73 fb, bLaw g lo lc lz2_81 ll lm lg ld fc2_82]) := hD
                refine W.widen (k := 0) (n := 0) (Nat.le_of_ble_eq_true rfl) (Nat.le_of_ble_eq_true rfl) ?_
                refine W.eq (g2 := F0 m 187 ls [.int q_83]) rfl ?_
                refine lv_pop hx hb dX2_readAtom_187 rfl ?_
                refine lv_iconst (v := 1) hx hb dX2_readAtom_188 (by decide) ?_
                have hP : va_P g.1 vwCl (List.flatten [bLT g lt ta lo, bTape g ta ab sz ln kd2_70 bg2_71 nx2_72 ft2_73 fb, bLaw g lo lc lz2_81 ll lm lg ld fc2_82]) H := hP
                have hD : va_D A (List.flatten [bLT g lt ta lo, bTape g ta ab sz ln kd2_70 bg2_71 nx2_72 ft2_73 fb, bLaw g lo lc lz2_81 ll lm lg ld fc2_82]) := hD
                exact mret_z hx hb hr hlocks hS (Nat.le_of_ble_eq_true rfl) (Nat.le_of_ble_eq_true rfl) dX2_readAtom_189 (kd2_70, bg2_71, nx2_72, ft2_73, lz2_81, fc2_82, (1 : Int32)) rfl (by decide) (show (0 ≤ lz2_81.toInt ∧ lz2_81.toInt ≤ 400) ∧ (-1 ≤ ft2_73.toInt) ∧ (0 ≤ nx2_72.toInt ∧ nx2_72.toInt ≤ 400) ∧ (0 ≤ bg2_71.toInt ∧ bg2_71.toInt ≤ 400) ∧ (zKd kd2_70.toInt bg2_71.toInt nx2_72.toInt) ∧ (1 = 0 ∨ 1 = 1) from ⟨hq84, hq77_1, hq77_2, hq77_3, hq77_4, (by decide)⟩) hP hD
        · skip
          refine lv_if_eq (tgt := 98) hx hb dX2_readAtom_82 (by decide) (fun c85 => absurd c85 (by decide)) (fun _ => ?_)
          refine lv_aload_n hx hb dX2_readAtom_85 rfl (lv_at hl 0 rfl) ?_
          refine va_get (D := g.1) (ci := 2) (v := .ref lo) (C := RX2) (T := TX2) (N := 2) hx hb hts izRX2 hown hK hP 0 rfl rfl 1 (by decide) (hts _ k210) (fun _ h9 => h9) rfl dX2_readAtom_86 ?_
          refine lv_bipush (v := 11) hx hb dX2_readAtom_89 (by decide) ?_
          refine lv_iconst (v := 0) hx hb dX2_readAtom_91 (by decide) ?_
          refine mcallV' (g := g) (q0 := 0) (ci := 1) (As := [.int 11, .int 0]) (rest := []) St hK hT hA hP hD hS hl.1 [1] [0, 2] rfl rfl rfl (c_l_put l g lo lc lz ll lm lg ld fc 11 0 b_lz) (cwV 2 hts (zgL (zl4 k297 k298 k299 k85) k202) rfl rfl rfl (by decide +kernel) ⟨Nat.le_of_ble_eq_true rfl, Nat.le_of_ble_eq_true rfl⟩) rfl rfl rfl rfl (Nat.le_of_ble_eq_true rfl) dX2_readAtom_92 ⟨(Nat.le_of_ble_eq_true rfl), (Nat.le_of_ble_eq_true rfl)⟩ (fun u_ H locs hq89 hP hD hS => ?_)
          obtain ⟨lz2_86, fc2_87, q_88⟩ := u_
          replace hq89 : (0 ≤ lz2_86.toInt ∧ lz2_86.toInt ≤ 400) := hq89
          have hP : va_P g.1 vwCl (List.flatten [bLT g lt ta lo, bTape g ta ab sz ln kd2_13 bg2_14 nx2_15 ft fb, bLaw g lo lc lz2_86 ll lm lg ld fc2_87]) H := hP
          have hD : va_D A (List.flatten [bLT g lt ta lo, bTape g ta ab sz ln kd2_13 bg2_14 nx2_15 ft fb, bLaw g lo lc lz2_86 ll lm lg ld fc2_87]) := hD
          refine W.widen (k := 0) (n := 0) (Nat.le_of_ble_eq_true rfl) (Nat.le_of_ble_eq_true rfl) ?_
          refine W.eq (g2 := F0 m 95 ls [.int q_88]) rfl ?_
          refine lv_pop hx hb dX2_readAtom_95 rfl ?_
          refine lv_iconst (v := 1) hx hb dX2_readAtom_96 (by decide) ?_
          have hP : va_P g.1 vwCl (List.flatten [bLT g lt ta lo, bTape g ta ab sz ln kd2_13 bg2_14 nx2_15 ft fb, bLaw g lo lc lz2_86 ll lm lg ld fc2_87]) H := hP
          have hD : va_D A (List.flatten [bLT g lt ta lo, bTape g ta ab sz ln kd2_13 bg2_14 nx2_15 ft fb, bLaw g lo lc lz2_86 ll lm lg ld fc2_87]) := hD
          exact mret_z hx hb hr hlocks hS (Nat.le_of_ble_eq_true rfl) (Nat.le_of_ble_eq_true rfl) dX2_readAtom_97 (kd2_13, bg2_14, nx2_15, ft, lz2_86, fc2_87, (1 : Int32)) rfl (by decide) (show (0 ≤ lz2_86.toInt ∧ lz2_86.toInt ≤ 400) ∧ (-1 ≤ ft.toInt) ∧ (0 ≤ nx2_15.toInt ∧ nx2_15.toInt ≤ 400) ∧ (0 ≤ bg2_14.toInt ∧ bg2_14.toInt ≤ 400) ∧ (zKd kd2_13.toInt bg2_14.toInt nx2_15.toInt) ∧ (1 = 0 ∨ 1 = 1) from ⟨hq89, hft, hq17_0, hq17_1, hq17_2, (by decide)⟩) hP hD
      · skip
        refine lv_if_eq (tgt := 73) hx hb dX2_readAtom_57 (by decide) (fun c90 => absurd c90 (by decide)) (fun _ => ?_)
        refine lv_aload_n hx hb dX2_readAtom_60 rfl (lv_at hl 0 rfl) ?_
        refine va_get (D := g.1) (ci := 2) (v := .ref lo) (C := RX2) (T := TX2) (N := 2) hx hb hts izRX2 hown hK hP 0 rfl rfl 1 (by decide) (hts _ k210) (fun _ h9 => h9) rfl dX2_readAtom_61 ?_
        refine lv_bipush (v := 10) hx hb dX2_readAtom_64 (by decide) ?_
        refine lv_iconst (v := 0) hx hb dX2_readAtom_66 (by decide) ?_
        refine mcallV' (g := g) (q0 := 0) (ci := 1) (As := [.int 10, .int 0]) (rest := []) St hK hT hA hP hD hS hl.1 [1] [0, 2] rfl rfl rfl (c_l_put l g lo lc lz ll lm lg ld fc 10 0 b_lz) (cwV 2 hts (zgL (zl4 k297 k298 k299 k85) k202) rfl rfl rfl (by decide +kernel) ⟨Nat.le_of_ble_eq_true rfl, Nat.le_of_ble_eq_true rfl⟩) rfl rfl rfl rfl (Nat.le_of_ble_eq_true rfl) dX2_readAtom_67 ⟨(Nat.le_of_ble_eq_true rfl), (Nat.le_of_ble_eq_true rfl)⟩ (fun u_ H locs hq94 hP hD hS => ?_)
        obtain ⟨lz2_91, fc2_92, q_93⟩ := u_
        replace hq94 : (0 ≤ lz2_91.toInt ∧ lz2_91.toInt ≤ 400) := hq94
        have hP : va_P g.1 vwCl (List.flatten [bLT g lt ta lo, bTape g ta ab sz ln kd2_7 bg2_8 nx2_9 ft fb, bLaw g lo lc lz2_91 ll lm lg ld fc2_92]) H := hP
        have hD : va_D A (List.flatten [bLT g lt ta lo, bTape g ta ab sz ln kd2_7 bg2_8 nx2_9 ft fb, bLaw g lo lc lz2_91 ll lm lg ld fc2_92]) := hD
        refine W.widen (k := 0) (n := 0) (Nat.le_of_ble_eq_true rfl) (Nat.le_of_ble_eq_true rfl) ?_
        refine W.eq (g2 := F0 m 70 ls [.int q_93]) rfl ?_
        refine lv_pop hx hb dX2_readAtom_70 rfl ?_
        refine lv_iconst (v := 1) hx hb dX2_readAtom_71 (by decide) ?_
        have hP : va_P g.1 vwCl (List.flatten [bLT g lt ta lo, bTape g ta ab sz ln kd2_7 bg2_8 nx2_9 ft fb, bLaw g lo lc lz2_91 ll lm lg ld fc2_92]) H := hP
        have hD : va_D A (List.flatten [bLT g lt ta lo, bTape g ta ab sz ln kd2_7 bg2_8 nx2_9 ft fb, bLaw g lo lc lz2_91 ll lm lg ld fc2_92]) := hD
        exact mret_z hx hb hr hlocks hS (Nat.le_of_ble_eq_true rfl) (Nat.le_of_ble_eq_true rfl) dX2_readAtom_72 (kd2_7, bg2_8, nx2_9, ft, lz2_91, fc2_92, (1 : Int32)) rfl (by decide) (show (0 ≤ lz2_91.toInt ∧ lz2_91.toInt ≤ 400) ∧ (-1 ≤ ft.toInt) ∧ (0 ≤ nx2_9.toInt ∧ nx2_9.toInt ≤ 400) ∧ (0 ≤ bg2_8.toInt ∧ bg2_8.toInt ≤ 400) ∧ (zKd kd2_7.toInt bg2_8.toInt nx2_9.toInt) ∧ (1 = 0 ∨ 1 = 1) from ⟨hq94, hft, hq11_0, hq11_1, hq11_2, (by decide)⟩) hP hD
    · skip
      refine lv_if_eq (tgt := 48) hx hb dX2_readAtom_21 (by decide) (fun c95 => absurd c95 (by decide)) (fun _ => ?_)
      refine lv_iload_n hx hb dX2_readAtom_24 rfl (lv_at hl 1 rfl) ?_
      refine lv_bipush (v := 6) hx hb dX2_readAtom_25 (by decide) ?_
      refine lv_icmp_ge (tgt := 40) hx hb dX2_readAtom_27 (by decide) (fun c96 => absurd c96 (by decide)) (fun _ => ?_)
      refine lv_aload_n hx hb dX2_readAtom_30 rfl (lv_at hl 0 rfl) ?_
      refine lv_iload_n hx hb dX2_readAtom_31 rfl (lv_at hl 1 rfl) ?_
      refine lv_iconst (v := 1) hx hb dX2_readAtom_32 (by decide) ?_
      refine lv_iadd hx hb dX2_readAtom_33 ?_
      refine ztop (r := 5) (by decide) ?_
      refine mcallV' (g := g) (q0 := 0) (ci := 2) (As := [.int 5]) (rest := []) St hK hT hA hP hD hS hl.1 [0, 2, 1] [] rfl rfl rfl (c_lt_readDeeper5 l g lt ta lo ab sz ln kd bg nx ft fb lc lz ll lm lg ld fc b_lz hln hnx hbg hkd hft) (cwV 1 hts (zgL (zl4 k306 k307 k308 k309) k323) rfl rfl rfl (by decide +kernel) ⟨Nat.le_of_ble_eq_true rfl, Nat.le_of_ble_eq_true rfl⟩) rfl rfl rfl rfl (Nat.le_of_ble_eq_true rfl) dX2_readAtom_34 ⟨(Nat.le_of_ble_eq_true rfl), (Nat.le_of_ble_eq_true rfl)⟩ (fun u_ H locs hq104 hP hD hS => ?_)
      obtain ⟨kd2_97, bg2_98, nx2_99, ft2_100, lz2_101, fc2_102, q_103⟩ := u_
      replace hq104 : (0 ≤ lz2_101.toInt ∧ lz2_101.toInt ≤ 400) ∧ (-1 ≤ ft2_100.toInt) ∧ (0 ≤ nx2_99.toInt ∧ nx2_99.toInt ≤ 400) ∧ (0 ≤ bg2_98.toInt ∧ bg2_98.toInt ≤ 400) ∧ (zKd kd2_97.toInt bg2_98.toInt nx2_99.toInt) ∧ (q_103 = 0 ∨ q_103 = 1) := hq104
      have hP : va_P g.1 vwCl (List.flatten [bLT g lt ta lo, bTape g ta ab sz ln kd2_97 bg2_98 nx2_99 ft2_100 fb, bLaw g lo lc lz2_101 ll lm lg ld fc2_102]) H := hP
      have hD : va_D A (List.flatten [bLT g lt ta lo, bTape g ta ab sz ln kd2_97 bg2_98 nx2_99 ft2_100 fb, bLaw g lo lc lz2_101 ll lm lg ld fc2_102]) := hD
      refine W.widen (k := 0) (n := 0) (Nat.le_of_ble_eq_true rfl) (Nat.le_of_ble_eq_true rfl) ?_
      refine W.eq (g2 := F0 m 37 ls [.int q_103]) rfl ?_
      obtain ⟨hq104_0, hq104_1, hq104_2, hq104_3, hq104_4, hq104_5⟩ := hq104
      rcases hq104_5 with rfl | rfl
      · skip
        refine lv_goto (tgt := 47) hx hb dX2_readAtom_37 (by decide) ?_
        have hP : va_P g.1 vwCl (List.flatten [bLT g lt ta lo, bTape g ta ab sz ln kd2_97 bg2_98 nx2_99 ft2_100 fb, bLaw g lo lc lz2_101 ll lm lg ld fc2_102]) H := hP
        have hD : va_D A (List.flatten [bLT g lt ta lo, bTape g ta ab sz ln kd2_97 bg2_98 nx2_99 ft2_100 fb, bLaw g lo lc lz2_101 ll lm lg ld fc2_102]) := hD
        exact mret_z hx hb hr hlocks hS (Nat.le_of_ble_eq_true rfl) (Nat.le_of_ble_eq_true rfl) dX2_readAtom_47 (kd2_97, bg2_98, nx2_99, ft2_100, lz2_101, fc2_102, (0 : Int32)) rfl (by decide) (show (0 ≤ lz2_101.toInt ∧ lz2_101.toInt ≤ 400) ∧ (-1 ≤ ft2_100.toInt) ∧ (0 ≤ nx2_99.toInt ∧ nx2_99.toInt ≤ 400) ∧ (0 ≤ bg2_98.toInt ∧ bg2_98.toInt ≤ 400) ∧ (zKd kd2_97.toInt bg2_98.toInt nx2_99.toInt) ∧ (0 = 0 ∨ 0 = 1) from ⟨hq104_0, hq104_1, hq104_2, hq104_3, hq104_4, (by decide)⟩) hP hD
      · skip
        refine lv_goto (tgt := 47) hx hb dX2_readAtom_37 (by decide) ?_
        have hP : va_P g.1 vwCl (List.flatten [bLT g lt ta lo, bTape g ta ab sz ln kd2_97 bg2_98 nx2_99 ft2_100 fb, bLaw g lo lc lz2_101 ll lm lg ld fc2_102]) H := hP
        have hD : va_D A (List.flatten [bLT g lt ta lo, bTape g ta ab sz ln kd2_97 bg2_98 nx2_99 ft2_100 fb, bLaw g lo lc lz2_101 ll lm lg ld fc2_102]) := hD
        exact mret_z hx hb hr hlocks hS (Nat.le_of_ble_eq_true rfl) (Nat.le_of_ble_eq_true rfl) dX2_readAtom_47 (kd2_97, bg2_98, nx2_99, ft2_100, lz2_101, fc2_102, (1 : Int32)) rfl (by decide) (show (0 ≤ lz2_101.toInt ∧ lz2_101.toInt ≤ 400) ∧ (-1 ≤ ft2_100.toInt) ∧ (0 ≤ nx2_99.toInt ∧ nx2_99.toInt ≤ 400) ∧ (0 ≤ bg2_98.toInt ∧ bg2_98.toInt ≤ 400) ∧ (zKd kd2_97.toInt bg2_98.toInt nx2_99.toInt) ∧ (1 = 0 ∨ 1 = 1) from ⟨hq104_0, hq104_1, hq104_2, hq104_3, hq104_4, (by decide)⟩) hP hD
  · skip
    refine lv_if_ne (tgt := 24) hx hb dX2_readAtom_9 (by decide) (fun _ => ?_) (fun c105 => absurd c105 (by decide))
    refine lv_iload_n hx hb dX2_readAtom_24 rfl (lv_at hl 1 rfl) ?_
    refine lv_bipush (v := 6) hx hb dX2_readAtom_25 (by decide) ?_
    refine lv_icmp_ge (tgt := 40) hx hb dX2_readAtom_27 (by decide) (fun c106 => absurd c106 (by decide)) (fun _ => ?_)
    refine lv_aload_n hx hb dX2_readAtom_30 rfl (lv_at hl 0 rfl) ?_
    refine lv_iload_n hx hb dX2_readAtom_31 rfl (lv_at hl 1 rfl) ?_
    refine lv_iconst (v := 1) hx hb dX2_readAtom_32 (by decide) ?_
    refine lv_iadd hx hb dX2_readAtom_33 ?_
    refine ztop (r := 5) (by decide) ?_
    refine mcallV' (g := g) (q0 := 0) (ci := 2) (As := [.int 5]) (rest := []) St hK hT hA hP hD hS hl.1 [0, 2, 1] [] rfl rfl rfl (c_lt_readDeeper5 l g lt ta lo ab sz ln kd bg nx ft fb lc lz ll lm lg ld fc b_lz hln hnx hbg hkd hft) (cwV 1 hts (zgL (zl4 k306 k307 k308 k309) k323) rfl rfl rfl (by decide +kernel) ⟨Nat.le_of_ble_eq_true rfl, Nat.le_of_ble_eq_true rfl⟩) rfl rfl rfl rfl (Nat.le_of_ble_eq_true rfl) dX2_readAtom_34 ⟨(Nat.le_of_ble_eq_true rfl), (Nat.le_of_ble_eq_true rfl)⟩ (fun u_ H locs hq114 hP hD hS => ?_)
    obtain ⟨kd2_107, bg2_108, nx2_109, ft2_110, lz2_111, fc2_112, q_113⟩ := u_
    replace hq114 : (0 ≤ lz2_111.toInt ∧ lz2_111.toInt ≤ 400) ∧ (-1 ≤ ft2_110.toInt) ∧ (0 ≤ nx2_109.toInt ∧ nx2_109.toInt ≤ 400) ∧ (0 ≤ bg2_108.toInt ∧ bg2_108.toInt ≤ 400) ∧ (zKd kd2_107.toInt bg2_108.toInt nx2_109.toInt) ∧ (q_113 = 0 ∨ q_113 = 1) := hq114
    have hP : va_P g.1 vwCl (List.flatten [bLT g lt ta lo, bTape g ta ab sz ln kd2_107 bg2_108 nx2_109 ft2_110 fb, bLaw g lo lc lz2_111 ll lm lg ld fc2_112]) H := hP
    have hD : va_D A (List.flatten [bLT g lt ta lo, bTape g ta ab sz ln kd2_107 bg2_108 nx2_109 ft2_110 fb, bLaw g lo lc lz2_111 ll lm lg ld fc2_112]) := hD
    refine W.widen (k := 0) (n := 0) (Nat.le_of_ble_eq_true rfl) (Nat.le_of_ble_eq_true rfl) ?_
    refine W.eq (g2 := F0 m 37 ls [.int q_113]) rfl ?_
    obtain ⟨hq114_0, hq114_1, hq114_2, hq114_3, hq114_4, hq114_5⟩ := hq114
    rcases hq114_5 with rfl | rfl
    · skip
      refine lv_goto (tgt := 47) hx hb dX2_readAtom_37 (by decide) ?_
      have hP : va_P g.1 vwCl (List.flatten [bLT g lt ta lo, bTape g ta ab sz ln kd2_107 bg2_108 nx2_109 ft2_110 fb, bLaw g lo lc lz2_111 ll lm lg ld fc2_112]) H := hP
      have hD : va_D A (List.flatten [bLT g lt ta lo, bTape g ta ab sz ln kd2_107 bg2_108 nx2_109 ft2_110 fb, bLaw g lo lc lz2_111 ll lm lg ld fc2_112]) := hD
      exact mret_z hx hb hr hlocks hS (Nat.le_of_ble_eq_true rfl) (Nat.le_of_ble_eq_true rfl) dX2_readAtom_47 (kd2_107, bg2_108, nx2_109, ft2_110, lz2_111, fc2_112, (0 : Int32)) rfl (by decide) (show (0 ≤ lz2_111.toInt ∧ lz2_111.toInt ≤ 400) ∧ (-1 ≤ ft2_110.toInt) ∧ (0 ≤ nx2_109.toInt ∧ nx2_109.toInt ≤ 400) ∧ (0 ≤ bg2_108.toInt ∧ bg2_108.toInt ≤ 400) ∧ (zKd kd2_107.toInt bg2_108.toInt nx2_109.toInt) ∧ (0 = 0 ∨ 0 = 1) from ⟨hq114_0, hq114_1, hq114_2, hq114_3, hq114_4, (by decide)⟩) hP hD
    · skip
      refine lv_goto (tgt := 47) hx hb dX2_readAtom_37 (by decide) ?_
      have hP : va_P g.1 vwCl (List.flatten [bLT g lt ta lo, bTape g ta ab sz ln kd2_107 bg2_108 nx2_109 ft2_110 fb, bLaw g lo lc lz2_111 ll lm lg ld fc2_112]) H := hP
      have hD : va_D A (List.flatten [bLT g lt ta lo, bTape g ta ab sz ln kd2_107 bg2_108 nx2_109 ft2_110 fb, bLaw g lo lc lz2_111 ll lm lg ld fc2_112]) := hD
      exact mret_z hx hb hr hlocks hS (Nat.le_of_ble_eq_true rfl) (Nat.le_of_ble_eq_true rfl) dX2_readAtom_47 (kd2_107, bg2_108, nx2_109, ft2_110, lz2_111, fc2_112, (1 : Int32)) rfl (by decide) (show (0 ≤ lz2_111.toInt ∧ lz2_111.toInt ≤ 400) ∧ (-1 ≤ ft2_110.toInt) ∧ (0 ≤ nx2_109.toInt ∧ nx2_109.toInt ≤ 400) ∧ (0 ≤ bg2_108.toInt ∧ bg2_108.toInt ≤ 400) ∧ (zKd kd2_107.toInt bg2_108.toInt nx2_109.toInt) ∧ (1 = 0 ∨ 1 = 1) from ⟨hq114_0, hq114_1, hq114_2, hq114_3, hq114_4, (by decide)⟩) hP hD
