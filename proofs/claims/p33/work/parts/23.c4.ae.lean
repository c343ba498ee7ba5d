set_option maxRecDepth 100000 in
set_option maxHeartbeats 4000000 in
theorem c_lt_readLines (l : Launch) (g : zG) (lt : Nat) (ta : Nat) (lo : Nat) (ab : Nat) (sz : Int32) (ln : Int32) (kd : Int32) (bg : Int32) (nx : Int32) (ft : Int32) (fb : Nat → Int32) (lc : Nat) (lz : Int32) (ll : Int32) (lm : Int32) (lg : Int32) (ld : Int32) (fc : Nat → Int32) (mo : Int32) (b_lz : 0 ≤ lz.toInt ∧ lz.toInt ≤ 400) (b_mo : 0 ≤ mo.toInt ∧ mo.toInt ≤ 20) (hln : 0 ≤ ln.toInt ∧ ln.toInt ≤ 400) (hnx : 0 ≤ nx.toInt ∧ nx.toInt ≤ 400) (hbg : 0 ≤ bg.toInt ∧ bg.toInt ≤ 400) (hkd : zKd kd.toInt bg.toInt nx.toInt) (hft : -1 ≤ ft.toInt) : zM' g l yX7_readLines (Cond.code yX7_readLines cX7_readLines 3 (some .int) :: zB) ({ frames := 27, cells := 0, slots := 0, locals := 600 } : Room) [.ref lt, .int mo] [bLT g lt ta lo, bTape g ta ab sz ln kd bg nx ft fb, bLaw g lo lc lz ll lm lg ld fc] (fun u : Int32 × Int32 × Int32 × Int32 × Int32 × (Nat → Int32) × Int32 => (fun (kd2 : Int32) (bg2 : Int32) (nx2 : Int32) (ft2 : Int32) (lz2 : Int32) (fc2 : Nat → Int32) (q : Int32) => some (.int q)) (u.1) (u.2.1) (u.2.2.1) (u.2.2.2.1) (u.2.2.2.2.1) (u.2.2.2.2.2.1) (u.2.2.2.2.2.2)) (fun u : Int32 × Int32 × Int32 × Int32 × Int32 × (Nat → Int32) × Int32 => (fun (kd2 : Int32) (bg2 : Int32) (nx2 : Int32) (ft2 : Int32) (lz2 : Int32) (fc2 : Nat → Int32) (q : Int32) => (0 ≤ lz2.toInt ∧ lz2.toInt ≤ 400) ∧ (-1 ≤ ft2.toInt) ∧ (0 ≤ nx2.toInt ∧ nx2.toInt ≤ 400) ∧ (0 ≤ bg2.toInt ∧ bg2.toInt ≤ 400) ∧ (zKd kd2.toInt bg2.toInt nx2.toInt)) (u.1) (u.2.1) (u.2.2.1) (u.2.2.2.1) (u.2.2.2.2.1) (u.2.2.2.2.2.1) (u.2.2.2.2.2.2)) (fun u : Int32 × Int32 × Int32 × Int32 × Int32 × (Nat → Int32) × Int32 => (fun (kd2 : Int32) (bg2 : Int32) (nx2 : Int32) (ft2 : Int32) (lz2 : Int32) (fc2 : Nat → Int32) (q : Int32) => [bLT g lt ta lo, bTape g ta ab sz ln kd2 bg2 nx2 ft2 fb, bLaw g lo lc lz2 ll lm lg ld fc2]) (u.1) (u.2.1) (u.2.2.1) (u.2.2.2.1) (u.2.2.2.2.1) (u.2.2.2.2.2.1) (u.2.2.2.2.2.2)) := by
  refine zM'.of (cc := cX7_readLines) (maxL := 3) (rt := (some .int)) (by decide) rfl (Nat.le_of_ble_eq_true rfl) ?_
  intro p e s m args below meth c A ls St hr hlocks hin hK hT hA hP hD hS hl
  obtain ⟨hx, hb, hml, hown, hts⟩ := id St
  have hl : lv_has ls 3 [(0, .ref lt), (1, .int mo)] := hl
  refine lv_aload_n hx hb dX7_readLines_0 rfl (lv_at hl 0 rfl) ?_
  refine va_get (D := g.1) (ci := 2) (v := .ref ta) (C := RX2) (T := TX2) (N := 2) hx hb hts izRX2 hown hK hP 0 rfl rfl 0 (by decide) (hts _ k206) (fun _ h9 => h9) rfl dX7_readLines_1 ?_
  refine va_get (D := g.1) (ci := 6) (v := .int kd) (C := RX6) (T := TX6) (N := 7) hx hb hts izRX6 hown hK hP 1 rfl rfl 3 (by decide) (hts _ k487) (fun _ h9 => h9) rfl dX7_readLines_4 ?_
  refine lv_if_ne (tgt := 12) hx hb dX7_readLines_7 (by decide) (fun cb9 => ?_) (fun cb9 => ?_)
  · skip
    have c1 : ¬ kd.toInt = 0 := zne cb9 rfl (by decide)
    refine lv_iconst (v := 1) hx hb dX7_readLines_12 (by decide) ?_
    refine lv_istore_n (lv' := [(2, .int 1), (0, .ref lt), (1, .int mo)]) hx hb dX7_readLines_13 rfl hl (by decide) rfl (fun ls hl => ?_)
    have hl := lv_sub (l' := [(0, .ref lt), (1, .int mo), (2, .int 1)]) hl [1, 2, 0] rfl
    have LP14_15 : ∀ (kf : Nat) (x_2 : Int32) (x_3 : Int32) (x_4 : Int32) (x_5 : Int32) (x_6 : Int32) (x_7 : Int32) (fc_8 : Nat → Int32), (1 ≤ x_2.toInt ∧ x_2.toInt ≤ 21) → (0 ≤ x_4.toInt ∧ x_4.toInt ≤ 400) → (0 ≤ x_5.toInt ∧ x_5.toInt ≤ 400) → ((-1) ≤ x_6.toInt) → (0 ≤ x_7.toInt ∧ x_7.toInt ≤ 400) → (zKd x_3.toInt x_4.toInt x_5.toInt) → ∀ (H : Heap) (locs : List Loc) (ls : Array Slot), ((22 - x_2.toInt).toNat) < kf → va_P g.1 vwCl (List.flatten [bLT g lt ta lo, bTape g ta ab sz ln x_3 x_4 x_5 x_6 fb, bLaw g lo lc x_7 ll lm lg ld fc_8]) H → va_D A (List.flatten [bLT g lt ta lo, bTape g ta ab sz ln x_3 x_4 x_5 x_6 fb, bLaw g lo lc x_7 ll lm lg ld fc_8]) → va_S A s.heap H locs → lv_has ls 3 [(0, .ref lt), (1, .int mo), (2, .int x_2)] → W p l e ({ frames := 27, cells := 0, slots := 0, locals := 600 } : Room) s m args below meth c H locs (0) (0) (zF g (fun u : Int32 × Int32 × Int32 × Int32 × Int32 × (Nat → Int32) × Int32 => (fun (kd2 : Int32) (bg2 : Int32) (nx2 : Int32) (ft2 : Int32) (lz2 : Int32) (fc2 : Nat → Int32) (q : Int32) => some (.int q)) (u.1) (u.2.1) (u.2.2.1) (u.2.2.2.1) (u.2.2.2.2.1) (u.2.2.2.2.2.1) (u.2.2.2.2.2.2)) (fun u : Int32 × Int32 × Int32 × Int32 × Int32 × (Nat → Int32) × Int32 => (fun (kd2 : Int32) (bg2 : Int32) (nx2 : Int32) (ft2 : Int32) (lz2 : Int32) (fc2 : Nat → Int32) (q : Int32) => (0 ≤ lz2.toInt ∧ lz2.toInt ≤ 400) ∧ (-1 ≤ ft2.toInt) ∧ (0 ≤ nx2.toInt ∧ nx2.toInt ≤ 400) ∧ (0 ≤ bg2.toInt ∧ bg2.toInt ≤ 400) ∧ (zKd kd2.toInt bg2.toInt nx2.toInt)) (u.1) (u.2.1) (u.2.2.1) (u.2.2.2.1) (u.2.2.2.2.1) (u.2.2.2.2.2.1) (u.2.2.2.2.2.2)) (fun u : Int32 × Int32 × Int32 × Int32 × Int32 × (Nat → Int32) × Int32 => (fun (kd2 : Int32) (bg2 : Int32) (nx2 : Int32) (ft2 : Int32) (lz2 : Int32) (fc2 : Nat → Int32) (q : Int32) => [bLT g lt ta lo, bTape g ta ab sz ln kd2 bg2 nx2 ft2 fb, bLaw g lo lc lz2 ll lm lg ld fc2]) (u.1) (u.2.1) (u.2.2.1) (u.2.2.2.1) (u.2.2.2.2.1) (u.2.2.2.2.2.1) (u.2.2.2.2.2.2)) ({ frames := 27, cells := 0, slots := 0, locals := 600 } : Room) below args s A) (F0 m 14 ls []) := by
      intro kf
      induction kf with
      | zero => intro x_2 x_3 x_4 x_5 x_6 x_7 fc_8 i9 i10 i11 i12 i13 i14 H locs ls hk; exact absurd hk (Nat.not_lt_zero _)
      | succ kf ih14_16 =>
        intro x_2 x_3 x_4 x_5 x_6 x_7 fc_8 i9 i10 i11 i12 i13 i14 H locs ls hk14_16 hP hD hS hl
        refine lv_iload_n hx hb dX7_readLines_14 rfl (lv_at hl 2 rfl) ?_
        refine lv_iload_n hx hb dX7_readLines_15 rfl (lv_at hl 1 rfl) ?_
        refine lv_icmp_gt (tgt := 60) hx hb dX7_readLines_16 (by decide) (fun cb9 => ?_) (fun cb9 => ?_)
        · skip
          have c17 : mo.toInt < x_2.toInt := zlti cb9 rfl rfl
          refine lv_aload_n hx hb dX7_readLines_60 rfl (lv_at hl 0 rfl) ?_
          refine va_get (D := g.1) (ci := 2) (v := .ref ta) (C := RX2) (T := TX2) (N := 2) hx hb hts izRX2 hown hK hP 0 rfl rfl 0 (by decide) (hts _ k206) (fun _ h9 => h9) rfl dX7_readLines_61 ?_
          refine mcallV' (g := g) (q0 := 0) (ci := 6) (As := []) (rest := []) St hK hT hA hP hD hS hl.1 [1] [0, 2] rfl rfl rfl (c_t_refuse l g ta ab sz ln x_3 x_4 x_5 x_6 fb hln i11 i10 i14 i12) (cwV 0 hts (zgL (zl4 k497 k279 k280 k277) k269) rfl rfl rfl (by decide +kernel) ⟨Nat.le_of_ble_eq_true rfl, Nat.le_of_ble_eq_true rfl⟩) rfl rfl rfl rfl (Nat.le_of_ble_eq_true rfl) dX7_readLines_64 ⟨(Nat.le_of_ble_eq_true rfl), (Nat.le_of_ble_eq_true rfl)⟩ (fun ft2_18 H locs hq19 hP hD hS => ?_)
          replace hq19 : (-1 ≤ ft2_18.toInt) := hq19
          have hP : va_P g.1 vwCl (List.flatten [bLT g lt ta lo, bLaw g lo lc x_7 ll lm lg ld fc_8, bTape g ta ab sz ln x_3 x_4 x_5 ft2_18 fb]) H := hP
          have hD : va_D A (List.flatten [bLT g lt ta lo, bLaw g lo lc x_7 ll lm lg ld fc_8, bTape g ta ab sz ln x_3 x_4 x_5 ft2_18 fb]) := hD
          refine W.widen (k := 0) (n := 0) (Nat.le_of_ble_eq_true rfl) (Nat.le_of_ble_eq_true rfl) ?_
          refine W.eq (g2 := F0 m 67 ls [.int 0]) rfl ?_
          refine lv_pop hx hb dX7_readLines_67 rfl ?_
          refine lv_iconst (v := (-1)) hx hb dX7_readLines_68 (by decide) ?_
          have hP : va_P g.1 vwCl (List.flatten [bLT g lt ta lo, bLaw g lo lc x_7 ll lm lg ld fc_8, bTape g ta ab sz ln x_3 x_4 x_5 ft2_18 fb]) H := hP
          have hD : va_D A (List.flatten [bLT g lt ta lo, bLaw g lo lc x_7 ll lm lg ld fc_8, bTape g ta ab sz ln x_3 x_4 x_5 ft2_18 fb]) := hD
          obtain ⟨hP, hD⟩ := zord (g := g) (Bs' := [bLT g lt ta lo, bTape g ta ab sz ln x_3 x_4 x_5 ft2_18 fb, bLaw g lo lc x_7 ll lm lg ld fc_8]) [0, 2, 1] rfl rfl hP hD
          exact mret_i hx hb hr hlocks hS (Nat.le_of_ble_eq_true rfl) (Nat.le_of_ble_eq_true rfl) dX7_readLines_69 (x_3, x_4, x_5, ft2_18, x_7, fc_8, -1) rfl (show (0 ≤ x_7.toInt ∧ x_7.toInt ≤ 400) ∧ (-1 ≤ ft2_18.toInt) ∧ (0 ≤ x_5.toInt ∧ x_5.toInt ≤ 400) ∧ (0 ≤ x_4.toInt ∧ x_4.toInt ≤ 400) ∧ (zKd x_3.toInt x_4.toInt x_5.toInt) from ⟨i13, hq19, i11, i10, i14⟩) hP hD
        · skip
          have c20 : x_2.toInt ≤ mo.toInt := zle (Int32.not_lt.mp cb9) rfl rfl
          have n21 : x_2.toInt ≤ 20 := Int.le_trans c20 b_mo.2
          have n22 : 1 ≤ mo.toInt := Int.le_trans i9.1 c20
          refine lv_aload_n hx hb dX7_readLines_19 rfl (lv_at hl 0 rfl) ?_
          refine mcallU' (g := g) (q0 := 0) (ci := 2) (As := []) (rest := []) St hK hT hA hP hD hS hl.1 [0, 1, 2] [] rfl rfl rfl (c_lt_readLine l g lt ta lo ab sz ln x_3 x_4 x_5 x_6 fb lc x_7 ll lm lg ld fc_8 i13 hln i11 i10 i14 i12) (va_cwA (owner := "DryRiver$Text") (x := ⟨"DryRiver$Text", "readLine", "()Z"⟩) 0 hts (zgL (zl5 k488 k489 k490 k491 k309) k328) rfl rfl rfl hT.2.2 (by decide +kernel) ⟨Nat.le_of_ble_eq_true rfl, Nat.le_of_ble_eq_true rfl⟩) rfl rfl rfl rfl (Nat.le_of_ble_eq_true rfl) dX7_readLines_20 ⟨(Nat.le_of_ble_eq_true rfl), (Nat.le_of_ble_eq_true rfl)⟩ (fun u_ H locs hq30 hP hD hS => ?_)
          obtain ⟨kd2_23, bg2_24, nx2_25, ft2_26, lz2_27, fc2_28, q_29⟩ := u_
          replace hq30 : (0 ≤ lz2_27.toInt ∧ lz2_27.toInt ≤ 400) ∧ (-1 ≤ ft2_26.toInt) ∧ (0 ≤ nx2_25.toInt ∧ nx2_25.toInt ≤ 400) ∧ (0 ≤ bg2_24.toInt ∧ bg2_24.toInt ≤ 400) ∧ (zKd kd2_23.toInt bg2_24.toInt nx2_25.toInt) ∧ (q_29 = 0 ∨ q_29 = 1) := hq30
          have hP : va_P g.1 vwCl (List.flatten [bLT g lt ta lo, bTape g ta ab sz ln kd2_23 bg2_24 nx2_25 ft2_26 fb, bLaw g lo lc lz2_27 ll lm lg ld fc2_28]) H := hP
          have hD : va_D A (List.flatten [bLT g lt ta lo, bTape g ta ab sz ln kd2_23 bg2_24 nx2_25 ft2_26 fb, bLaw g lo lc lz2_27 ll lm lg ld fc2_28]) := hD
          refine W.widen (k := 0) (n := 0) (Nat.le_of_ble_eq_true rfl) (Nat.le_of_ble_eq_true rfl) ?_
          refine W.eq (g2 := F0 m 23 ls [.int q_29]) rfl ?_
          obtain ⟨hq30_0, hq30_1, hq30_2, hq30_3, hq30_4, hq30_5⟩ := hq30
          rcases hq30_5 with rfl | rfl
          · skip
            refine lv_if_ne (tgt := 28) hx hb dX7_readLines_23 (by decide) (fun c31 => absurd (by decide) c31) (fun _ => ?_)
            refine lv_iconst (v := (-1)) hx hb dX7_readLines_26 (by decide) ?_
            have hP : va_P g.1 vwCl (List.flatten [bLT g lt ta lo, bTape g ta ab sz ln kd2_23 bg2_24 nx2_25 ft2_26 fb, bLaw g lo lc lz2_27 ll lm lg ld fc2_28]) H := hP
            have hD : va_D A (List.flatten [bLT g lt ta lo, bTape g ta ab sz ln kd2_23 bg2_24 nx2_25 ft2_26 fb, bLaw g lo lc lz2_27 ll lm lg ld fc2_28]) := hD
            exact mret_i hx hb hr hlocks hS (Nat.le_of_ble_eq_true rfl) (Nat.le_of_ble_eq_true rfl) dX7_readLines_27 (kd2_23, bg2_24, nx2_25, ft2_26, lz2_27, fc2_28, -1) rfl (show (0 ≤ lz2_27.toInt ∧ lz2_27.toInt ≤ 400) ∧ (-1 ≤ ft2_26.toInt) ∧ (0 ≤ nx2_25.toInt ∧ nx2_25.toInt ≤ 400) ∧ (0 ≤ bg2_24.toInt ∧ bg2_24.toInt ≤ 400) ∧ (zKd kd2_23.toInt bg2_24.toInt nx2_25.toInt) from ⟨hq30_0, hq30_1, hq30_2, hq30_3, hq30_4⟩) hP hD
          · skip
            refine lv_if_ne (tgt := 28) hx hb dX7_readLines_23 (by decide) (fun _ => ?_) (fun c32 => absurd c32 (by decide))
            refine lv_aload_n hx hb dX7_readLines_28 rfl (lv_at hl 0 rfl) ?_
            refine va_get (D := g.1) (ci := 2) (v := .ref ta) (C := RX2) (T := TX2) (N := 2) hx hb hts izRX2 hown hK hP 0 rfl rfl 0 (by decide) (hts _ k206) (fun _ h9 => h9) rfl dX7_readLines_29 ?_
            refine va_get (D := g.1) (ci := 6) (v := .int kd2_23) (C := RX6) (T := TX6) (N := 7) hx hb hts izRX6 hown hK hP 1 rfl rfl 3 (by decide) (hts _ k487) (fun _ h9 => h9) rfl dX7_readLines_32 ?_
            refine lv_if_ne (tgt := 40) hx hb dX7_readLines_35 (by decide) (fun cb9 => ?_) (fun cb9 => ?_)
            · skip
              have c33 : ¬ kd2_23.toInt = 0 := zne cb9 rfl (by decide)
              refine lv_aload_n hx hb dX7_readLines_40 rfl (lv_at hl 0 rfl) ?_
              refine va_get (D := g.1) (ci := 2) (v := .ref ta) (C := RX2) (T := TX2) (N := 2) hx hb hts izRX2 hown hK hP 0 rfl rfl 0 (by decide) (hts _ k206) (fun _ h9 => h9) rfl dX7_readLines_41 ?_
              refine lv_bipush (v := 59) hx hb dX7_readLines_44 (by decide) ?_
              refine mcallV' (g := g) (q0 := 0) (ci := 6) (As := [.int 59]) (rest := []) St hK hT hA hP hD hS hl.1 [1] [0, 2] rfl rfl rfl (c_t_needSign l g ta ab sz ln kd2_23 bg2_24 nx2_25 ft2_26 fb 59 hln hq30_2 hq30_3 hq30_4 hq30_1) (cwV 1 hts (zgL (zl4 k494 k495 k496 k277) k432) rfl rfl rfl (by decide +kernel) ⟨Nat.le_of_ble_eq_true rfl, Nat.le_of_ble_eq_true rfl⟩) rfl rfl rfl rfl (Nat.le_of_ble_eq_true rfl) dX7_readLines_46 ⟨(Nat.le_of_ble_eq_true rfl), (Nat.le_of_ble_eq_true rfl)⟩ (fun u_ H locs hq39 hP hD hS => ?_)
              obtain ⟨kd2_34, bg2_35, nx2_36, ft2_37, q_38⟩ := u_
              replace hq39 : (0 ≤ nx2_36.toInt ∧ nx2_36.toInt ≤ 400) ∧ (0 ≤ bg2_35.toInt ∧ bg2_35.toInt ≤ 400) ∧ (zKd kd2_34.toInt bg2_35.toInt nx2_36.toInt) ∧ (-1 ≤ ft2_37.toInt) ∧ (q_38 = 0 ∨ q_38 = 1) := hq39
              have hP : va_P g.1 vwCl (List.flatten [bLT g lt ta lo, bLaw g lo lc lz2_27 ll lm lg ld fc2_28, bTape g ta ab sz ln kd2_34 bg2_35 nx2_36 ft2_37 fb]) H := hP
              have hD : va_D A (List.flatten [bLT g lt ta lo, bLaw g lo lc lz2_27 ll lm lg ld fc2_28, bTape g ta ab sz ln kd2_34 bg2_35 nx2_36 ft2_37 fb]) := hD
              refine W.widen (k := 0) (n := 0) (Nat.le_of_ble_eq_true rfl) (Nat.le_of_ble_eq_true rfl) ?_
              refine W.eq (g2 := F0 m 49 ls [.int q_38]) rfl ?_
              obtain ⟨hq39_0, hq39_1, hq39_2, hq39_3, hq39_4⟩ := hq39
              rcases hq39_4 with rfl | rfl
              · skip
                refine lv_if_ne (tgt := 54) hx hb dX7_readLines_49 (by decide) (fun c40 => absurd (by decide) c40) (fun _ => ?_)
                refine lv_iconst (v := (-1)) hx hb dX7_readLines_52 (by decide) ?_
                have hP : va_P g.1 vwCl (List.flatten [bLT g lt ta lo, bLaw g lo lc lz2_27 ll lm lg ld fc2_28, bTape g ta ab sz ln kd2_34 bg2_35 nx2_36 ft2_37 fb]) H := hP
                have hD : va_D A (List.flatten [bLT g lt ta lo, bLaw g lo lc lz2_27 ll lm lg ld fc2_28, bTape g ta ab sz ln kd2_34 bg2_35 nx2_36 ft2_37 fb]) := hD
                obtain ⟨hP, hD⟩ := zord (g := g) (Bs' := [bLT g lt ta lo, bTape g ta ab sz ln kd2_34 bg2_35 nx2_36 ft2_37 fb, bLaw g lo lc lz2_27 ll lm lg ld fc2_28]) [0, 2, 1] rfl rfl hP hD
                exact mret_i hx hb hr hlocks hS (Nat.le_of_ble_eq_true rfl) (Nat.le_of_ble_eq_true rfl) dX7_readLines_53 (kd2_34, bg2_35, nx2_36, ft2_37, lz2_27, fc2_28, -1) rfl (show (0 ≤ lz2_27.toInt ∧ lz2_27.toInt ≤ 400) ∧ (-1 ≤ ft2_37.toInt) ∧ (0 ≤ nx2_36.toInt ∧ nx2_36.toInt ≤ 400) ∧ (0 ≤ bg2_35.toInt ∧ bg2_35.toInt ≤ 400) ∧ (zKd kd2_34.toInt bg2_35.toInt nx2_36.toInt) from ⟨hq30_0, hq39_3, hq39_0, hq39_1, hq39_2⟩) hP hD
              · skip
                refine lv_if_ne (tgt := 54) hx hb dX7_readLines_49 (by decide) (fun _ => ?_) (fun c41 => absurd c41 (by decide))
                refine ziinc3 (n' := 1) (a' := 2) (b' := 21) (lv' := fun v9 => [(2, .int v9), (0, .ref lt), (1, .int mo)]) hx hb dX7_readLines_54 hl (k := 2) rfl (by decide) (fun _ => rfl) (zaddK (i := x_2.toInt) (j := 1) rfl (by decide) i9.1 n21 (Int.le_refl _) (Int.le_refl _) (by decide)) (fun x_42 ls hx_42 hl => ?_)
                refine lv_goto (tgt := 14) hx hb dX7_readLines_57 (by decide) ?_
                have hl := lv_sub (l' := [(0, .ref lt), (1, .int mo), (2, .int x_42)]) hl [1, 2, 0] rfl
                have hP : va_P g.1 vwCl (List.flatten [bLT g lt ta lo, bLaw g lo lc lz2_27 ll lm lg ld fc2_28, bTape g ta ab sz ln kd2_34 bg2_35 nx2_36 ft2_37 fb]) H := hP
                have hD : va_D A (List.flatten [bLT g lt ta lo, bLaw g lo lc lz2_27 ll lm lg ld fc2_28, bTape g ta ab sz ln kd2_34 bg2_35 nx2_36 ft2_37 fb]) := hD
                obtain ⟨hP, hD⟩ := zord (g := g) (Bs' := [bLT g lt ta lo, bTape g ta ab sz ln kd2_34 bg2_35 nx2_36 ft2_37 fb, bLaw g lo lc lz2_27 ll lm lg ld fc2_28]) [0, 2, 1] rfl rfl hP hD
                have hP : va_P g.1 vwCl (List.flatten [bLT g lt ta lo, bTape g ta ab sz ln kd2_34 bg2_35 nx2_36 ft2_37 fb, bLaw g lo lc lz2_27 ll lm lg ld fc2_28]) H := hP
                have hD : va_D A (List.flatten [bLT g lt ta lo, bTape g ta ab sz ln kd2_34 bg2_35 nx2_36 ft2_37 fb, bLaw g lo lc lz2_27 ll lm lg ld fc2_28]) := hD
                exact ih14_16 x_42 kd2_34 bg2_35 nx2_36 ft2_37 lz2_27 fc2_28 ⟨(Int.le_trans (by decide) hx_42.2.1), hx_42.2.2⟩ ⟨hq39_1.1, hq39_1.2⟩ ⟨hq39_0.1, hq39_0.2⟩ (by first | omega | assumption | decide) ⟨hq30_0.1, hq30_0.2⟩ hq39_2 H _ ls (zmK hx_42.1 (by decide) n21 (by decide) hk14_16)  hP hD hS (lv_sub hl [0, 1, 2] rfl)
            · skip
              have c43 : kd2_23.toInt = 0 := zeq cb9 rfl (by decide)
              have n44 : 0 ≤ kd2_23.toInt := Int.le_trans (Int.le_refl _) (Int.le_of_eq c43.symm)
              have n45 : kd2_23.toInt ≤ 0 := Int.le_trans (Int.le_of_eq c43) (Int.le_refl _)
              refine lv_iload_n hx hb dX7_readLines_38 rfl (lv_at hl 2 rfl) ?_
              have hP : va_P g.1 vwCl (List.flatten [bLT g lt ta lo, bTape g ta ab sz ln kd2_23 bg2_24 nx2_25 ft2_26 fb, bLaw g lo lc lz2_27 ll lm lg ld fc2_28]) H := hP
              have hD : va_D A (List.flatten [bLT g lt ta lo, bTape g ta ab sz ln kd2_23 bg2_24 nx2_25 ft2_26 fb, bLaw g lo lc lz2_27 ll lm lg ld fc2_28]) := hD
              exact mret_i hx hb hr hlocks hS (Nat.le_of_ble_eq_true rfl) (Nat.le_of_ble_eq_true rfl) dX7_readLines_39 (kd2_23, bg2_24, nx2_25, ft2_26, lz2_27, fc2_28, x_2) rfl (show (0 ≤ lz2_27.toInt ∧ lz2_27.toInt ≤ 400) ∧ (-1 ≤ ft2_26.toInt) ∧ (0 ≤ nx2_25.toInt ∧ nx2_25.toInt ≤ 400) ∧ (0 ≤ bg2_24.toInt ∧ bg2_24.toInt ≤ 400) ∧ (zKd kd2_23.toInt bg2_24.toInt nx2_25.toInt) from ⟨hq30_0, hq30_1, hq30_2, hq30_3, hq30_4⟩) hP hD
    have hL1 : (1 : Int32).toInt = 1 := by decide
    have hP : va_P g.1 vwCl (List.flatten [bLT g lt ta lo, bTape g ta ab sz ln kd bg nx ft fb, bLaw g lo lc lz ll lm lg ld fc]) s.heap := hP
    have hD : va_D A (List.flatten [bLT g lt ta lo, bTape g ta ab sz ln kd bg nx ft fb, bLaw g lo lc lz ll lm lg ld fc]) := hD
    exact LP14_15 _ 1 kd bg nx ft lz fc (by decide) ⟨hbg.1, hbg.2⟩ ⟨hnx.1, hnx.2⟩ (by first | omega | assumption | decide) ⟨b_lz.1, b_lz.2⟩ hkd s.heap _ ls (Nat.lt_succ_self _)  hP hD hS (lv_sub hl [0, 1, 2] rfl)
  · skip
    have c46 : kd.toInt = 0 := zeq cb9 rfl (by decide)
    have n47 : 0 ≤ kd.toInt := Int.le_trans (Int.le_refl _) (Int.le_of_eq c46.symm)
    have n48 : kd.toInt ≤ 0 := Int.le_trans (Int.le_of_eq c46) (Int.le_refl _)
    refine lv_iconst (v := 0) hx hb dX7_readLines_10 (by decide) ?_
    have hP : va_P g.1 vwCl (List.flatten [bLT g lt ta lo, bTape g ta ab sz ln kd bg nx ft fb, bLaw g lo lc lz ll lm lg ld fc]) s.heap := hP
    have hD : va_D A (List.flatten [bLT g lt ta lo, bTape g ta ab sz ln kd bg nx ft fb, bLaw g lo lc lz ll lm lg ld fc]) := hD
    exact mret_i hx hb hr hlocks hS (Nat.le_of_ble_eq_true rfl) (Nat.le_of_ble_eq_true rfl) dX7_readLines_11 (kd, bg, nx, ft, lz, fc, (0 : Int32)) rfl (show (0 ≤ lz.toInt ∧ lz.toInt ≤ 400) ∧ (-1 ≤ ft.toInt) ∧ (0 ≤ nx.toInt ∧ nx.toInt ≤ 400) ∧ (0 ≤ bg.toInt ∧ bg.toInt ≤ 400) ∧ (zKd kd.toInt bg.toInt nx.toInt) from ⟨b_lz, hft, hnx, hbg, hkd⟩) hP hD
